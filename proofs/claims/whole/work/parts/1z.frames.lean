theorem nOle (fz : Nat) (x : Int32) (h : HH) : B_V_nodeOf fz x h ≤ 11 := by
  unfold B_V_nodeOf
  split <;> decide
theorem pOle (fz : Nat) (x : Int32) (h : HH) : B_V_peerOf fz x h ≤ 11 := by
  unfold B_V_peerOf
  split <;> decide
theorem fv_E_putInFront_43 (fz c : Nat) (hc : 27 ≤ c) (i0 : Nat) (ki0 : i0 ≤ 11) (x2 : Int32) (h : HH) : (B_E_putInFront_43 fz i0 x2 h) c = h c := by
  unfold B_E_putInFront_43
  split
  · exact ((u2_i _ _ _ (by omega)).trans rfl)
  · exact rfl
theorem fv_E_putInFront_12 (fz c : Nat) (hc : 27 ≤ c) : ∀ (fu : Nat) (i0 : Nat) (ki0 : i0 ≤ 11) (x1 : Int32) (x2 : Int32) (x3 : Int32) (h : HH), (B_E_putInFront_12 fz fu i0 x1 x2 x3 h) c = h c := by
  intro fu
  induction fu with
  | zero =>
    intro i0 ki0 x1 x2 x3 h
    rfl
  | succ fu ih =>
    intro i0 ki0 x1 x2 x3 h
    rw [B_E_putInFront_12]
    split
    · exact ((fv_E_putInFront_43 fz c hc i0 (by omega) x2 (u2 h (i0 + 3) (ix (0 : Int32)) x1)).trans ((u2_i _ _ _ (by omega)).trans rfl))
    · exact ((ih i0 (by omega) x1 x2 (x3 + (-1)) (u2 h (i0 + 3) (ix x3) (h (i0 + 3) (ix (x3 - (1 : Int32)))))).trans ((u2_i _ _ _ (by omega)).trans rfl))
theorem fv_E_putInFront (fz c : Nat) (hc : 27 ≤ c) (i0 : Nat) (ki0 : i0 ≤ 11) (x1 : Int32) (x2 : Int32) (h : HH) : (B_E_putInFront fz i0 x1 x2 h) c = h c := by
  unfold B_E_putInFront
  split
  · exact rfl
  · split
    · exact ((fv_E_putInFront_12 fz c hc fz i0 (by omega) x1 x2 x2 h).trans rfl)
    · exact rfl
theorem fv_N_epochOfNextWrite_26 (fz c : Nat) (hc : 27 ≤ c) (i0 : Nat) (ki0 : i0 ≤ 11) (h : HH) : (B_N_epochOfNextWrite_26 fz i0 h).2 c = h c := by
  unfold B_N_epochOfNextWrite_26
  exact rfl
theorem fv_N_epochOfNextWrite_21 (fz c : Nat) (hc : 27 ≤ c) (i0 : Nat) (ki0 : i0 ≤ 11) (h : HH) : (B_N_epochOfNextWrite_21 fz i0 h).2 c = h c := by
  unfold B_N_epochOfNextWrite_21
  exact ((fv_N_epochOfNextWrite_26 fz c hc i0 (by omega) (u2 h i0 16 (0 : Int32))).trans ((u2_i _ _ _ (by omega)).trans rfl))
theorem fv_N_epochOfNextWrite_11 (fz c : Nat) (hc : 27 ≤ c) (i0 : Nat) (ki0 : i0 ≤ 11) (h : HH) : (B_N_epochOfNextWrite_11 fz i0 h).2 c = h c := by
  unfold B_N_epochOfNextWrite_11
  exact ((fv_N_epochOfNextWrite_21 fz c hc i0 (by omega) (u2 h i0 15 ((h i0 15) + (1 : Int32)))).trans ((u2_i _ _ _ (by omega)).trans rfl))
theorem fv_N_epochOfNextWrite (fz c : Nat) (hc : 27 ≤ c) (i0 : Nat) (ki0 : i0 ≤ 11) (x1 : Int32) (h : HH) : (B_N_epochOfNextWrite fz i0 x1 h).2 c = h c := by
  unfold B_N_epochOfNextWrite
  split
  · split
    · exact ((fv_N_epochOfNextWrite_21 fz c hc i0 (by omega) h).trans rfl)
    · exact ((fv_N_epochOfNextWrite_11 fz c hc i0 (by omega) h).trans rfl)
  · exact ((fv_N_epochOfNextWrite_11 fz c hc i0 (by omega) h).trans rfl)
theorem fv_T_accept_70 (fz c : Nat) (hc : 27 ≤ c)  (h : HH) : (B_T_accept_70 fz  h).2 c = h c := by
  unfold B_T_accept_70
  exact rfl
theorem fv_T_accept_60 (fz c : Nat) (hc : 27 ≤ c)  (h : HH) : (B_T_accept_60 fz  h).2 c = h c := by
  unfold B_T_accept_60
  exact ((fv_T_accept_70 fz c hc  (u2 h 26 (ix (h 21 5)) (1 : Int32))).trans ((u2_i _ _ _ (by omega)).trans rfl))
theorem fv_T_accept_49 (fz c : Nat) (hc : 27 ≤ c) (x4 : Int32) (h : HH) : (B_T_accept_49 fz x4 h).2 c = h c := by
  unfold B_T_accept_49
  exact ((fv_T_accept_60 fz c hc  (u2 h 25 (ix (h 21 5)) x4)).trans ((u2_i _ _ _ (by omega)).trans rfl))
theorem fv_T_accept_39 (fz c : Nat) (hc : 27 ≤ c) (x3 : Int32) (x4 : Int32) (h : HH) : (B_T_accept_39 fz x3 x4 h).2 c = h c := by
  unfold B_T_accept_39
  exact ((fv_T_accept_49 fz c hc x4 (u2 h 24 (ix (h 21 5)) x3)).trans ((u2_i _ _ _ (by omega)).trans rfl))
theorem fv_T_accept_29 (fz c : Nat) (hc : 27 ≤ c) (x2 : Int32) (x3 : Int32) (x4 : Int32) (h : HH) : (B_T_accept_29 fz x2 x3 x4 h).2 c = h c := by
  unfold B_T_accept_29
  exact ((fv_T_accept_39 fz c hc x3 x4 (u2 h 23 (ix (h 21 5)) x2)).trans ((u2_i _ _ _ (by omega)).trans rfl))
theorem fv_T_accept_19 (fz c : Nat) (hc : 27 ≤ c) (x1 : Int32) (x2 : Int32) (x3 : Int32) (x4 : Int32) (h : HH) : (B_T_accept_19 fz x1 x2 x3 x4 h).2 c = h c := by
  unfold B_T_accept_19
  exact ((fv_T_accept_29 fz c hc x2 x3 x4 (u2 h 22 (ix (h 21 5)) x1)).trans ((u2_i _ _ _ (by omega)).trans rfl))
theorem fv_T_accept (fz c : Nat) (hc : 27 ≤ c) (x1 : Int32) (x2 : Int32) (x3 : Int32) (x4 : Int32) (h : HH) : (B_T_accept fz x1 x2 x3 x4 h).2 c = h c := by
  unfold B_T_accept
  split
  · exact ((fv_T_accept_19 fz c hc x1 x2 x3 x4 (u2 h 21 5 ((h 21 5) + (1 : Int32)))).trans ((u2_i _ _ _ (by omega)).trans rfl))
  · exact rfl
theorem fv_O_send_48 (fz c : Nat) (hc : 27 ≤ c) (i0 : Nat) (ki0 : i0 ≤ 11) (h : HH) : (B_O_send_48 fz i0 h) c = h c := by
  unfold B_O_send_48
  exact ((u2_i _ _ _ (by omega)).trans rfl)
theorem fv_O_send (fz c : Nat) (hc : 27 ≤ c) (i0 : Nat) (ki0 : i0 ≤ 11) (x1 : Int32) (x2 : Int32) (x3 : Int32) (h : HH) : (B_O_send fz i0 x1 x2 x3 h) c = h c := by
  unfold B_O_send
  split
  · exact ((fv_O_send_48 fz c hc i0 (by omega) (u2 (u2 (u2 h (i0 + 5) (ix (((h (i0 + 4) 3) + (h (i0 + 4) 4)) - ((h (i0 + 4) 3) + (h (i0 + 4) 4)) / (25 : Int32) * (25 : Int32))) x1) (i0 + 6) (ix (((h (i0 + 4) 3) + (h (i0 + 4) 4)) - ((h (i0 + 4) 3) + (h (i0 + 4) 4)) / (25 : Int32) * (25 : Int32))) x2) (i0 + 7) (ix (((h (i0 + 4) 3) + (h (i0 + 4) 4)) - ((h (i0 + 4) 3) + (h (i0 + 4) 4)) / (25 : Int32) * (25 : Int32))) x3)).trans ((u2_i _ _ _ (by omega)).trans ((u2_i _ _ _ (by omega)).trans ((u2_i _ _ _ (by omega)).trans rfl))))
  · exact rfl
theorem fv_V_endUpAlone_69 (fz c : Nat) (hc : 27 ≤ c) (i2 : Nat) (ki2 : i2 ≤ 11) (h : HH) : (B_V_endUpAlone_69 fz i2 h) c = h c := by
  unfold B_V_endUpAlone_69
  exact ((u2_i _ _ _ (by omega)).trans rfl)
theorem fv_V_endUpAlone_59 (fz c : Nat) (hc : 27 ≤ c) (i2 : Nat) (ki2 : i2 ≤ 11) (h : HH) : (B_V_endUpAlone_59 fz i2 h) c = h c := by
  unfold B_V_endUpAlone_59
  exact ((fv_V_endUpAlone_69 fz c hc i2 (by omega) (u2 h 0 4 ((h 0 4) + (1 : Int32)))).trans ((u2_i _ _ _ (by omega)).trans rfl))
theorem fv_V_endUpAlone_44 (fz c : Nat) (hc : 27 ≤ c) (i2 : Nat) (ki2 : i2 ≤ 11) (h : HH) : (B_V_endUpAlone_44 fz i2 h) c = h c := by
  unfold B_V_endUpAlone_44
  split
  · exact ((fv_V_endUpAlone_59 fz c hc i2 (by omega) (u2 h i2 7 (h i2 6))).trans ((u2_i _ _ _ (by omega)).trans rfl))
  · exact rfl
theorem fv_V_endUpAlone_10 (fz c : Nat) (hc : 27 ≤ c) (x1 : Int32) (h : HH) : (B_V_endUpAlone_10 fz x1 h) c = h c := by
  unfold B_V_endUpAlone_10
  exact ((fv_V_endUpAlone_44 fz c hc (B_V_nodeOf fz (h 22 (ix x1)) h) (nOle fz (h 22 (ix x1)) h) (u2 h (B_V_nodeOf fz (h 22 (ix x1)) h) 5 ((h (B_V_nodeOf fz (h 22 (ix x1)) h) 5) ||| ((1 : Int32) <<< ((h 23 (ix x1)) &&& 31))))).trans ((u2_i _ _ _ (by have := nOle fz (h 22 (ix x1)) h; omega)).trans rfl))
theorem fv_V_endUpAlone (fz c : Nat) (hc : 27 ≤ c) (x1 : Int32) (h : HH) : (B_V_endUpAlone fz x1 h) c = h c := by
  unfold B_V_endUpAlone
  exact ((fv_V_endUpAlone_10 fz c hc x1 (u2 h 26 (ix x1) (3 : Int32))).trans ((u2_i _ _ _ (by omega)).trans rfl))
theorem fv_V_write_154 (fz c : Nat) (hc : 27 ≤ c) (i4 : Nat) (ki4 : i4 ≤ 11) (y0 : Int32) (h : HH) : (B_V_write_154 fz i4 y0 h).2 c = h c := by
  unfold B_V_write_154
  split
  · exact ((fv_V_endUpAlone fz c hc y0 h).trans rfl)
  · exact ((fv_O_send fz c hc i4 (by omega) (1 : Int32) y0 (0 : Int32) h).trans rfl)
theorem fv_V_write_140 (fz c : Nat) (hc : 27 ≤ c) (x1 : Int32) (x2 : Int32) (x3 : Int32) (i4 : Nat) (ki4 : i4 ≤ 11) (y0 : Int32) (h : HH) : (B_V_write_140 fz x1 x2 x3 i4 y0 h).2 c = h c := by
  unfold B_V_write_140
  exact ((fv_V_write_154 fz c hc i4 (by omega) (B_T_accept fz x1 x2 x3 y0 h).1 (B_T_accept fz x1 x2 x3 y0 h).2).trans ((fv_T_accept fz c hc x1 x2 x3 y0 h).trans rfl))
theorem fv_V_write_129 (fz c : Nat) (hc : 27 ≤ c) (x1 : Int32) (x2 : Int32) (x3 : Int32) (i4 : Nat) (ki4 : i4 ≤ 11) (x6 : Int32) (h : HH) : (B_V_write_129 fz x1 x2 x3 i4 x6 h).2 c = h c := by
  unfold B_V_write_129
  exact ((fv_V_write_140 fz c hc x1 x2 x3 i4 (by omega) (B_N_epochOfNextWrite fz i4 (B_V_hasBlock fz x6 x2 h) h).1 (B_N_epochOfNextWrite fz i4 (B_V_hasBlock fz x6 x2 h) h).2).trans ((fv_N_epochOfNextWrite fz c hc i4 (by omega) (B_V_hasBlock fz x6 x2 h) h).trans rfl))
theorem fv_V_write (fz c : Nat) (hc : 27 ≤ c) (x1 : Int32) (x2 : Int32) (x3 : Int32) (h : HH) : (B_V_write fz x1 x2 x3 h).2 c = h c := by
  unfold B_V_write
  split
  · exact rfl
  · split
    · exact rfl
    · split
      · exact rfl
      · split
        · exact rfl
        · split
          · split
            · split
              · exact rfl
              · exact ((fv_V_write_129 fz c hc x1 x2 x3 (B_V_nodeOf fz x1 h) (nOle fz x1 h) (B_T_pendingBlocks fz x1 h) (u2 (B_E_putInFront fz (B_V_nodeOf fz x1 h) (x2 / (4 : Int32)) (B_E_placeFor fz (B_V_nodeOf fz x1 h) (x2 / (4 : Int32)) (B_T_pendingBlocks fz x1 h) h) h) ((B_V_nodeOf fz x1 h) + 1) (ix x2) x3)).trans ((u2_i _ _ _ (by have := nOle fz x1 h; omega)).trans ((fv_E_putInFront fz c hc (B_V_nodeOf fz x1 h) (nOle fz x1 h) (x2 / (4 : Int32)) (B_E_placeFor fz (B_V_nodeOf fz x1 h) (x2 / (4 : Int32)) (B_T_pendingBlocks fz x1 h) h) h).trans rfl)))
            · exact rfl
          · exact rfl
theorem fv_V_barrier (fz c : Nat) (hc : 27 ≤ c) (x1 : Int32) (h : HH) : (B_V_barrier fz x1 h).2 c = h c := by
  unfold B_V_barrier
  split
  · exact rfl
  · split
    · exact rfl
    · split
      · exact rfl
      · exact ((u2_i _ _ _ (by have := nOle fz x1 h; omega)).trans rfl)
theorem fv_O_dropFirst_20 (fz c : Nat) (hc : 27 ≤ c) (i0 : Nat) (ki0 : i0 ≤ 11) (h : HH) : (B_O_dropFirst_20 fz i0 h) c = h c := by
  unfold B_O_dropFirst_20
  exact ((u2_i _ _ _ (by omega)).trans rfl)
theorem fv_O_dropFirst (fz c : Nat) (hc : 27 ≤ c) (i0 : Nat) (ki0 : i0 ≤ 11) (h : HH) : (B_O_dropFirst fz i0 h) c = h c := by
  unfold B_O_dropFirst
  split
  · exact rfl
  · exact ((fv_O_dropFirst_20 fz c hc i0 (by omega) (u2 h (i0 + 4) 3 (((h (i0 + 4) 3) + (1 : Int32)) - ((h (i0 + 4) 3) + (1 : Int32)) / (25 : Int32) * (25 : Int32)))).trans ((u2_i _ _ _ (by omega)).trans rfl))
theorem fv_L_add_19 (fz c : Nat) (hc : 27 ≤ c) (i0 : Nat) (ki0 : i0 ≤ 11) (h : HH) : (B_L_add_19 fz i0 h) c = h c := by
  unfold B_L_add_19
  exact ((u2_i _ _ _ (by omega)).trans rfl)
theorem fv_L_add (fz c : Nat) (hc : 27 ≤ c) (i0 : Nat) (ki0 : i0 ≤ 11) (x1 : Int32) (h : HH) : (B_L_add fz i0 x1 h) c = h c := by
  unfold B_L_add
  split
  · exact rfl
  · exact ((fv_L_add_19 fz c hc i0 (by omega) (u2 h (i0 + 9) (ix (h (i0 + 8) 1)) x1)).trans ((u2_i _ _ _ (by omega)).trans rfl))
theorem fv_T_changeFates_3 (fz c : Nat) (hc : 27 ≤ c) : ∀ (fu : Nat) (x1 : Int32) (x2 : Int32) (x3 : Int32) (x4 : Int32) (h : HH), (B_T_changeFates_3 fz fu x1 x2 x3 x4 h) c = h c := by
  intro fu
  induction fu with
  | zero =>
    intro x1 x2 x3 x4 h
    rfl
  | succ fu ih =>
    intro x1 x2 x3 x4 h
    rw [B_T_changeFates_3]
    split
    · exact rfl
    · split
      · split
        · exact ((ih x1 x2 x3 (x4 + 1) (u2 h 26 (ix x4) x3)).trans ((u2_i _ _ _ (by omega)).trans rfl))
        · exact ((ih x1 x2 x3 (x4 + 1) h).trans rfl)
      · exact ((ih x1 x2 x3 (x4 + 1) h).trans rfl)
theorem fv_T_changeFates (fz c : Nat) (hc : 27 ≤ c) (x1 : Int32) (x2 : Int32) (x3 : Int32) (h : HH) : (B_T_changeFates fz x1 x2 x3 h) c = h c := by
  unfold B_T_changeFates
  exact ((fv_T_changeFates_3 fz c hc fz x1 x2 x3 (1 : Int32) h).trans rfl)
theorem fv_V_end_28 (fz c : Nat) (hc : 27 ≤ c) (i1 : Nat) (ki1 : i1 ≤ 11) (h : HH) : (B_V_end_28 fz i1 h) c = h c := by
  unfold B_V_end_28
  exact ((fv_O_send fz c hc i1 (by omega) (5 : Int32) (h i1 6) (0 : Int32) h).trans rfl)
theorem fv_V_end_15 (fz c : Nat) (hc : 27 ≤ c) (i1 : Nat) (ki1 : i1 ≤ 11) (h : HH) : (B_V_end_15 fz i1 h) c = h c := by
  unfold B_V_end_15
  exact ((fv_V_end_28 fz c hc i1 (by omega) (B_T_changeFates fz (h i1 0) (3 : Int32) (2 : Int32) h)).trans ((fv_T_changeFates fz c hc (h i1 0) (3 : Int32) (2 : Int32) h).trans rfl))
theorem fv_V_end (fz c : Nat) (hc : 27 ≤ c) (i1 : Nat) (ki1 : i1 ≤ 11) (h : HH) : (B_V_end fz i1 h) c = h c := by
  unfold B_V_end
  exact ((fv_V_end_15 fz c hc i1 (by omega) (u2 (u2 (u2 h i1 12 (0 : Int32)) i1 9 (0 : Int32)) i1 7 (0 : Int32))).trans ((u2_i _ _ _ (by omega)).trans ((u2_i _ _ _ (by omega)).trans ((u2_i _ _ _ (by omega)).trans rfl))))
theorem fv_V_takeFromMap_14 (fz c : Nat) (hc : 27 ≤ c) (i1 : Nat) (ki1 : i1 ≤ 11) (h : HH) : (B_V_takeFromMap_14 fz i1 h) c = h c := by
  unfold B_V_takeFromMap_14
  split
  · exact ((fv_V_end fz c hc i1 (by omega) h).trans rfl)
  · exact rfl
theorem fv_V_takeFromMap (fz c : Nat) (hc : 27 ≤ c) (i1 : Nat) (ki1 : i1 ≤ 11) (x2 : Int32) (h : HH) : (B_V_takeFromMap fz i1 x2 h) c = h c := by
  unfold B_V_takeFromMap
  exact ((fv_V_takeFromMap_14 fz c hc i1 (by omega) (u2 h i1 5 ((h i1 5) &&& (((1 : Int32) <<< (x2 &&& 31)) ^^^ (-1 : Int32))))).trans ((u2_i _ _ _ (by omega)).trans rfl))
theorem fv_V_takeAck_10 (fz c : Nat) (hc : 27 ≤ c) (i1 : Nat) (ki1 : i1 ≤ 11) (x2 : Int32) (h : HH) : (B_V_takeAck_10 fz i1 x2 h) c = h c := by
  unfold B_V_takeAck_10
  split
  · exact rfl
  · exact ((fv_V_takeFromMap fz c hc i1 (by omega) (h 23 (ix x2)) h).trans rfl)
theorem fv_V_takeAck (fz c : Nat) (hc : 27 ≤ c) (i1 : Nat) (ki1 : i1 ≤ 11) (x2 : Int32) (h : HH) : (B_V_takeAck fz i1 x2 h) c = h c := by
  unfold B_V_takeAck
  exact ((fv_V_takeAck_10 fz c hc i1 (by omega) x2 (u2 h 26 (ix x2) (2 : Int32))).trans ((u2_i _ _ _ (by omega)).trans rfl))
theorem fv_N_takeFinish (fz c : Nat) (hc : 27 ≤ c) (i0 : Nat) (ki0 : i0 ≤ 11) (x1 : Int32) (h : HH) : (B_N_takeFinish fz i0 x1 h) c = h c := by
  unfold B_N_takeFinish
  exact ((u2_i _ _ _ (by omega)).trans ((u2_i _ _ _ (by omega)).trans ((u2_i _ _ _ (by omega)).trans ((u2_i _ _ _ (by omega)).trans ((u2_i _ _ _ (by omega)).trans ((u2_i _ _ _ (by omega)).trans rfl))))))
theorem fv_V_arrive_64 (fz c : Nat) (hc : 27 ≤ c) (i1 : Nat) (ki1 : i1 ≤ 11) (x3 : Int32) (h : HH) : (B_V_arrive_64 fz i1 x3 h) c = h c := by
  unfold B_V_arrive_64
  exact ((fv_O_send fz c hc i1 (by omega) (4 : Int32) x3 (0 : Int32) h).trans rfl)
theorem fv_V_arrive_91 (fz c : Nat) (hc : 27 ≤ c) (i1 : Nat) (ki1 : i1 ≤ 11) (x3 : Int32) (h : HH) : (B_V_arrive_91 fz i1 x3 h) c = h c := by
  unfold B_V_arrive_91
  exact ((fv_V_takeFromMap fz c hc i1 (by omega) x3 h).trans rfl)
theorem fv_V_arrive (fz c : Nat) (hc : 27 ≤ c) (i1 : Nat) (ki1 : i1 ≤ 11) (x2 : Int32) (x3 : Int32) (x4 : Int32) (h : HH) : (B_V_arrive fz i1 x2 x3 x4 h) c = h c := by
  unfold B_V_arrive
  split
  · exact ((fv_L_add fz c hc i1 (by omega) x3 h).trans rfl)
  · split
    · exact ((fv_V_takeAck fz c hc i1 (by omega) x3 h).trans rfl)
    · split
      · exact ((fv_V_arrive_64 fz c hc i1 (by omega) x3 (u2 h (i1 + 1) (ix x3) x4)).trans ((u2_i _ _ _ (by omega)).trans rfl))
      · split
        · exact ((fv_V_arrive_91 fz c hc i1 (by omega) x3 (u2 h i1 14 ((h i1 14) &&& (((1 : Int32) <<< (x3 &&& 31)) ^^^ (-1 : Int32))))).trans ((u2_i _ _ _ (by omega)).trans rfl))
        · split
          · exact ((fv_N_takeFinish fz c hc i1 (by omega) x3 h).trans rfl)
          · exact rfl
theorem fv_V_deliver_48 (fz c : Nat) (hc : 27 ≤ c) (x1 : Int32) (x3 : Int32) (x4 : Int32) (x5 : Int32) (h : HH) : (B_V_deliver_48 fz x1 x3 x4 x5 h).2 c = h c := by
  unfold B_V_deliver_48
  exact ((fv_V_arrive fz c hc (B_V_peerOf fz x1 h) (pOle fz x1 h) x3 x4 x5 h).trans rfl)
theorem fv_V_deliver (fz c : Nat) (hc : 27 ≤ c) (x1 : Int32) (h : HH) : (B_V_deliver fz x1 h).2 c = h c := by
  unfold B_V_deliver
  split
  · exact rfl
  · split
    · exact rfl
    · exact ((fv_V_deliver_48 fz c hc x1 (B_O_kindOfFirst fz (B_V_nodeOf fz x1 h) h) (B_O_subjectOfFirst fz (B_V_nodeOf fz x1 h) h) (B_O_valueOfFirst fz (B_V_nodeOf fz x1 h) h) (B_O_dropFirst fz (B_V_nodeOf fz x1 h) h)).trans ((fv_O_dropFirst fz c hc (B_V_nodeOf fz x1 h) (nOle fz x1 h) h).trans rfl))
theorem fv_L_remove_15 (fz c : Nat) (hc : 27 ≤ c) : ∀ (fu : Nat) (i0 : Nat) (ki0 : i0 ≤ 11) (x2 : Int32) (h : HH), (B_L_remove_15 fz fu i0 x2 h) c = h c := by
  intro fu
  induction fu with
  | zero =>
    intro i0 ki0 x2 h
    rfl
  | succ fu ih =>
    intro i0 ki0 x2 h
    rw [B_L_remove_15]
    split
    · exact ((u2_i _ _ _ (by omega)).trans rfl)
    · exact ((ih i0 (by omega) (x2 + 1) (u2 h (i0 + 9) (ix x2) (h (i0 + 9) (ix (x2 + (1 : Int32)))))).trans ((u2_i _ _ _ (by omega)).trans rfl))
theorem fv_L_remove (fz c : Nat) (hc : 27 ≤ c) (i0 : Nat) (ki0 : i0 ≤ 11) (x1 : Int32) (h : HH) : (B_L_remove fz i0 x1 h) c = h c := by
  unfold B_L_remove
  split
  · exact rfl
  · split
    · exact ((fv_L_remove_15 fz c hc fz i0 (by omega) x1 h).trans rfl)
    · exact rfl
theorem fv_V_store_104 (fz c : Nat) (hc : 27 ≤ c) (i3 : Nat) (ki3 : i3 ≤ 11) (x5 : Int32) (h : HH) : (B_V_store_104 fz i3 x5 h).2 c = h c := by
  unfold B_V_store_104
  exact ((fv_O_send fz c hc i3 (by omega) (2 : Int32) x5 (0 : Int32) h).trans rfl)
theorem fv_V_store_79 (fz c : Nat) (hc : 27 ≤ c) (i3 : Nat) (ki3 : i3 ≤ 11) (x5 : Int32) (h : HH) : (B_V_store_79 fz i3 x5 h).2 c = h c := by
  unfold B_V_store_79
  exact ((fv_V_store_104 fz c hc i3 (by omega) x5 (u2 h (i3 + 1) (ix (h 23 (ix x5))) (h 24 (ix x5)))).trans ((u2_i _ _ _ (by omega)).trans rfl))
theorem fv_V_store (fz c : Nat) (hc : 27 ≤ c) (x1 : Int32) (x2 : Int32) (h : HH) : (B_V_store fz x1 x2 h).2 c = h c := by
  unfold B_V_store
  split
  · exact rfl
  · split
    · exact rfl
    · split
      · split
        · exact ((fv_V_store_79 fz c hc (B_V_nodeOf fz x1 h) (nOle fz x1 h) (B_L_numberAt fz (B_V_nodeOf fz x1 h) x2 h) (B_L_remove fz (B_V_nodeOf fz x1 h) x2 h)).trans ((fv_L_remove fz c hc (B_V_nodeOf fz x1 h) (nOle fz x1 h) x2 h).trans rfl))
        · exact rfl
      · exact rfl
theorem fv_V_copy_80 (fz c : Nat) (hc : 27 ≤ c) (i2 : Nat) (ki2 : i2 ≤ 11) (x3 : Int32) (h : HH) : (B_V_copy_80 fz i2 x3 h).2 c = h c := by
  unfold B_V_copy_80
  exact ((fv_O_send fz c hc i2 (by omega) (3 : Int32) x3 (h (i2 + 1) (ix x3)) h).trans rfl)
theorem fv_V_copy (fz c : Nat) (hc : 27 ≤ c) (x1 : Int32) (h : HH) : (B_V_copy fz x1 h).2 c = h c := by
  unfold B_V_copy
  split
  · exact rfl
  · split
    · exact rfl
    · split
      · split
        · exact rfl
        · exact ((fv_V_copy_80 fz c hc (B_V_nodeOf fz x1 h) (nOle fz x1 h) (B_V_leastBlock fz (((h (B_V_nodeOf fz x1 h) 5) &&& ((h (B_V_nodeOf fz x1 h) 14) ^^^ (-1 : Int32))) &&& ((B_T_pendingBlocks fz x1 h) ^^^ (-1 : Int32))) h) (u2 h (B_V_nodeOf fz x1 h) 14 ((h (B_V_nodeOf fz x1 h) 14) ||| ((1 : Int32) <<< ((B_V_leastBlock fz (((h (B_V_nodeOf fz x1 h) 5) &&& ((h (B_V_nodeOf fz x1 h) 14) ^^^ (-1 : Int32))) &&& ((B_T_pendingBlocks fz x1 h) ^^^ (-1 : Int32))) h) &&& 31))))).trans ((u2_i _ _ _ (by have := nOle fz x1 h; omega)).trans rfl))
      · exact rfl
theorem fv_V_beginUpdate_71 (fz c : Nat) (hc : 27 ≤ c) (i1 : Nat) (ki1 : i1 ≤ 11) (h : HH) : (B_V_beginUpdate_71 fz i1 h) c = h c := by
  unfold B_V_beginUpdate_71
  split
  · exact ((fv_V_end fz c hc i1 (by omega) h).trans rfl)
  · exact rfl
theorem fv_V_beginUpdate_53 (fz c : Nat) (hc : 27 ≤ c) (i1 : Nat) (ki1 : i1 ≤ 11) (i2 : Nat) (ki2 : i2 ≤ 11) (j0 : Nat) (kj0 : j0 ≤ 11) (y1 : Int32) (h : HH) : (B_V_beginUpdate_53 fz i1 i2 j0 y1 h) c = h c := by
  unfold B_V_beginUpdate_53
  exact ((fv_V_beginUpdate_71 fz c hc i1 (by omega) (u2 (u2 (u2 (u2 h j0 5 y1) i1 12 (1 : Int32)) i2 13 (1 : Int32)) i2 8 (1 : Int32))).trans ((u2_i _ _ _ (by omega)).trans ((u2_i _ _ _ (by omega)).trans ((u2_i _ _ _ (by omega)).trans ((u2_i _ _ _ (by omega)).trans rfl)))))
theorem fv_V_beginUpdate_34 (fz c : Nat) (hc : 27 ≤ c) (i1 : Nat) (ki1 : i1 ≤ 11) (i2 : Nat) (ki2 : i2 ≤ 11) (y0 : Int32) (h : HH) : (B_V_beginUpdate_34 fz i1 i2 y0 h) c = h c := by
  unfold B_V_beginUpdate_34
  split
  · exact ((fv_V_beginUpdate_53 fz c hc i1 (by omega) i2 (by omega) i1 (by omega) (-1 : Int32) h).trans rfl)
  · exact ((fv_V_beginUpdate_53 fz c hc i1 (by omega) i2 (by omega) i1 (by omega) ((h i1 5) ||| (h i2 5)) h).trans rfl)
theorem fv_V_beginUpdate_33 (fz c : Nat) (hc : 27 ≤ c) (i1 : Nat) (ki1 : i1 ≤ 11) (i2 : Nat) (ki2 : i2 ≤ 11) (h : HH) : (B_V_beginUpdate_33 fz i1 i2 h) c = h c := by
  unfold B_V_beginUpdate_33
  exact ((fv_V_beginUpdate_34 fz c hc i1 (by omega) i2 (by omega) (0 : Int32) h).trans rfl)
theorem fv_V_beginUpdate_29 (fz c : Nat) (hc : 27 ≤ c) (i1 : Nat) (ki1 : i1 ≤ 11) (i2 : Nat) (ki2 : i2 ≤ 11) (h : HH) : (B_V_beginUpdate_29 fz i1 i2 h) c = h c := by
  unfold B_V_beginUpdate_29
  exact ((fv_V_beginUpdate_34 fz c hc i1 (by omega) i2 (by omega) (1 : Int32) h).trans rfl)
theorem fv_V_beginUpdate (fz c : Nat) (hc : 27 ≤ c) (i1 : Nat) (ki1 : i1 ≤ 11) (i2 : Nat) (ki2 : i2 ≤ 11) (h : HH) : (B_V_beginUpdate fz i1 i2 h) c = h c := by
  unfold B_V_beginUpdate
  split
  · exact ((fv_V_beginUpdate_33 fz c hc i1 (by omega) i2 (by omega) h).trans rfl)
  · split
    · exact ((fv_V_beginUpdate_29 fz c hc i1 (by omega) i2 (by omega) h).trans rfl)
    · split
      · exact ((fv_V_beginUpdate_29 fz c hc i1 (by omega) i2 (by omega) h).trans rfl)
      · exact ((fv_V_beginUpdate_33 fz c hc i1 (by omega) i2 (by omega) h).trans rfl)
theorem fv_V_connect_102 (fz c : Nat) (hc : 27 ≤ c) (x1 : Int32) (h : HH) : (B_V_connect_102 fz x1 h).2 c = h c := by
  unfold B_V_connect_102
  exact ((fv_V_beginUpdate fz c hc (B_V_nodeOf fz x1 h) (nOle fz x1 h) (B_V_peerOf fz x1 h) (pOle fz x1 h) h).trans rfl)
theorem fv_V_connect_56 (fz c : Nat) (hc : 27 ≤ c)  (h : HH) : (B_V_connect_56 fz  h).2 c = h c := by
  unfold B_V_connect_56
  split
  · split
    · exact ((u2_i _ _ _ (by omega)).trans rfl)
    · split
      · exact ((fv_V_connect_102 fz c hc (B_V_chooseSource fz  h) (u2 h 0 3 (1 : Int32))).trans ((u2_i _ _ _ (by omega)).trans rfl))
      · exact rfl
  · exact rfl
theorem fv_V_connect (fz c : Nat) (hc : 27 ≤ c)  (h : HH) : (B_V_connect fz  h).2 c = h c := by
  unfold B_V_connect
  split
  · exact rfl
  · split
    · exact rfl
    · split
      · split
        · exact ((fv_V_connect_56 fz c hc  h).trans rfl)
        · split
          · exact ((fv_V_connect_56 fz c hc  h).trans rfl)
          · exact rfl
      · exact rfl
theorem fv_N_leaveLink (fz c : Nat) (hc : 27 ≤ c) (i0 : Nat) (ki0 : i0 ≤ 11) (h : HH) : (B_N_leaveLink fz i0 h) c = h c := by
  unfold B_N_leaveLink
  exact ((u2_i _ _ _ (by omega)).trans ((u2_i _ _ _ (by omega)).trans ((u2_i _ _ _ (by omega)).trans ((u2_i _ _ _ (by omega)).trans ((u2_i _ _ _ (by omega)).trans rfl)))))
theorem fv_V_breakLink_21 (fz c : Nat) (hc : 27 ≤ c) : ∀ (fu : Nat) (x1 : Int32) (h : HH), (B_V_breakLink_21 fz fu x1 h) c = h c := by
  intro fu
  induction fu with
  | zero =>
    intro x1 h
    rfl
  | succ fu ih =>
    intro x1 h
    rw [B_V_breakLink_21]
    split
    · exact rfl
    · split
      · exact ((ih (x1 + 1) (B_V_endUpAlone fz x1 h)).trans ((fv_V_endUpAlone fz c hc x1 h).trans rfl))
      · exact ((ih (x1 + 1) h).trans rfl)
theorem fv_V_breakLink_19 (fz c : Nat) (hc : 27 ≤ c)  (h : HH) : (B_V_breakLink_19 fz  h) c = h c := by
  unfold B_V_breakLink_19
  exact ((fv_V_breakLink_21 fz c hc fz (1 : Int32) h).trans rfl)
theorem fv_V_breakLink_12 (fz c : Nat) (hc : 27 ≤ c)  (h : HH) : (B_V_breakLink_12 fz  h) c = h c := by
  unfold B_V_breakLink_12
  exact ((fv_V_breakLink_19 fz c hc  (B_N_leaveLink fz 11 h)).trans ((fv_N_leaveLink fz c hc 11 (by omega) h).trans rfl))
theorem fv_V_breakLink_5 (fz c : Nat) (hc : 27 ≤ c)  (h : HH) : (B_V_breakLink_5 fz  h) c = h c := by
  unfold B_V_breakLink_5
  exact ((fv_V_breakLink_12 fz c hc  (B_N_leaveLink fz 1 h)).trans ((fv_N_leaveLink fz c hc 1 (by omega) h).trans rfl))
theorem fv_V_breakLink (fz c : Nat) (hc : 27 ≤ c)  (h : HH) : (B_V_breakLink fz  h) c = h c := by
  unfold B_V_breakLink
  exact ((fv_V_breakLink_5 fz c hc  (u2 h 0 3 (0 : Int32))).trans ((u2_i _ _ _ (by omega)).trans rfl))
theorem fv_V_cut (fz c : Nat) (hc : 27 ≤ c)  (h : HH) : (B_V_cut fz  h).2 c = h c := by
  unfold B_V_cut
  split
  · exact rfl
  · exact ((fv_V_breakLink fz c hc  h).trans rfl)
theorem fv_V_crash_68 (fz c : Nat) (hc : 27 ≤ c)  (h : HH) : (B_V_crash_68 fz  h).2 c = h c := by
  unfold B_V_crash_68
  split
  · exact rfl
  · exact ((fv_V_breakLink fz c hc  h).trans rfl)
theorem fv_V_crash_51 (fz c : Nat) (hc : 27 ≤ c) (i2 : Nat) (ki2 : i2 ≤ 11) (h : HH) : (B_V_crash_51 fz i2 h).2 c = h c := by
  unfold B_V_crash_51
  split
  · exact ((fv_V_crash_68 fz c hc  h).trans rfl)
  · exact ((fv_V_crash_68 fz c hc  (u2 (u2 h i2 9 (1 : Int32)) i2 11 (0 : Int32))).trans ((u2_i _ _ _ (by omega)).trans ((u2_i _ _ _ (by omega)).trans rfl)))
theorem fv_V_crash_41 (fz c : Nat) (hc : 27 ≤ c) (x1 : Int32) (i2 : Nat) (ki2 : i2 ≤ 11) (h : HH) : (B_V_crash_41 fz x1 i2 h).2 c = h c := by
  unfold B_V_crash_41
  exact ((fv_V_crash_51 fz c hc i2 (by omega) (B_T_changeFates fz x1 (3 : Int32) (4 : Int32) h)).trans ((fv_T_changeFates fz c hc x1 (3 : Int32) (4 : Int32) h).trans rfl))
theorem fv_V_crash_31 (fz c : Nat) (hc : 27 ≤ c) (x1 : Int32) (i2 : Nat) (ki2 : i2 ≤ 11) (h : HH) : (B_V_crash_31 fz x1 i2 h).2 c = h c := by
  unfold B_V_crash_31
  exact ((fv_V_crash_41 fz c hc x1 i2 (by omega) (B_T_changeFates fz x1 (1 : Int32) (4 : Int32) h)).trans ((fv_T_changeFates fz c hc x1 (1 : Int32) (4 : Int32) h).trans rfl))
theorem fv_V_crash (fz c : Nat) (hc : 27 ≤ c) (x1 : Int32) (h : HH) : (B_V_crash fz x1 h).2 c = h c := by
  unfold B_V_crash
  split
  · exact rfl
  · split
    · exact rfl
    · exact ((fv_V_crash_31 fz c hc x1 (B_V_nodeOf fz x1 h) (nOle fz x1 h) (u2 h (B_V_nodeOf fz x1 h) 10 (0 : Int32))).trans ((u2_i _ _ _ (by have := nOle fz x1 h; omega)).trans rfl))
theorem fv_V_restart_31 (fz c : Nat) (hc : 27 ≤ c) (i2 : Nat) (ki2 : i2 ≤ 11) (h : HH) : (B_V_restart_31 fz i2 h).2 c = h c := by
  unfold B_V_restart_31
  split
  · exact rfl
  · exact ((u2_i _ _ _ (by omega)).trans rfl)
theorem fv_V_restart (fz c : Nat) (hc : 27 ≤ c) (x1 : Int32) (h : HH) : (B_V_restart fz x1 h).2 c = h c := by
  unfold B_V_restart
  split
  · exact rfl
  · split
    · exact ((fv_V_restart_31 fz c hc (B_V_nodeOf fz x1 h) (nOle fz x1 h) (u2 h (B_V_nodeOf fz x1 h) 10 (1 : Int32))).trans ((u2_i _ _ _ (by have := nOle fz x1 h; omega)).trans rfl))
    · exact rfl
theorem fv_V_promote_56 (fz c : Nat) (hc : 27 ≤ c) (i2 : Nat) (ki2 : i2 ≤ 11) (h : HH) : (B_V_promote_56 fz i2 h).2 c = h c := by
  unfold B_V_promote_56
  exact ((u2_i _ _ _ (by omega)).trans rfl)
theorem fv_V_promote (fz c : Nat) (hc : 27 ≤ c) (x1 : Int32) (h : HH) : (B_V_promote fz x1 h).2 c = h c := by
  unfold B_V_promote
  split
  · exact rfl
  · split
    · exact rfl
    · split
      · split
        · exact ((fv_V_promote_56 fz c hc (B_V_nodeOf fz x1 h) (nOle fz x1 h) h).trans rfl)
        · split
          · exact ((fv_V_promote_56 fz c hc (B_V_nodeOf fz x1 h) (nOle fz x1 h) h).trans rfl)
          · exact rfl
      · exact rfl
theorem fv_V_demote (fz c : Nat) (hc : 27 ≤ c) (x1 : Int32) (h : HH) : (B_V_demote fz x1 h).2 c = h c := by
  unfold B_V_demote
  split
  · exact rfl
  · split
    · exact rfl
    · split
      · exact rfl
      · split
        · exact ((u2_i _ _ _ (by have := nOle fz x1 h; omega)).trans rfl)
        · exact rfl
theorem fv_V_discard_74 (fz c : Nat) (hc : 27 ≤ c) (x1 : Int32) (h : HH) : (B_V_discard_74 fz x1 h).2 c = h c := by
  unfold B_V_discard_74
  exact ((fv_T_changeFates fz c hc x1 (3 : Int32) (4 : Int32) h).trans rfl)
theorem fv_V_discard (fz c : Nat) (hc : 27 ≤ c) (x1 : Int32) (h : HH) : (B_V_discard fz x1 h).2 c = h c := by
  unfold B_V_discard
  split
  · exact rfl
  · split
    · split
      · exact rfl
      · split
        · split
          · exact ((fv_V_discard_74 fz c hc x1 (u2 (u2 (u2 (u2 (u2 h (B_V_nodeOf fz x1 h) 8 (1 : Int32)) (B_V_nodeOf fz x1 h) 9 (0 : Int32)) (B_V_nodeOf fz x1 h) 6 (0 : Int32)) (B_V_nodeOf fz x1 h) 7 (0 : Int32)) (B_V_nodeOf fz x1 h) 5 (0 : Int32))).trans ((u2_i _ _ _ (by have := nOle fz x1 h; omega)).trans ((u2_i _ _ _ (by have := nOle fz x1 h; omega)).trans ((u2_i _ _ _ (by have := nOle fz x1 h; omega)).trans ((u2_i _ _ _ (by have := nOle fz x1 h; omega)).trans ((u2_i _ _ _ (by have := nOle fz x1 h; omega)).trans rfl))))))
          · exact rfl
        · exact rfl
    · exact rfl
theorem fv_M_send_38 (fz c : Nat) (hc : c < 27) (x1 : Int32) (h : HH) : (B_M_send_38 fz x1 h) c = h c := by
  unfold B_M_send_38
  exact ((u2_i _ _ _ (by omega)).trans rfl)
theorem fv_M_send (fz c : Nat) (hc : c < 27) (x1 : Int32) (x2 : Int32) (x3 : Int32) (x4 : Int32) (h : HH) : (B_M_send fz x1 x2 x3 x4 h) c = h c := by
  unfold B_M_send
  exact ((fv_M_send_38 fz c hc x1 (u2 (u2 (u2 h 48 (ix (((64 : Int32) * x1) + (h 51 (ix x1)))) x2) 49 (ix (((64 : Int32) * x1) + (h 51 (ix x1)))) x3) 50 (ix (((64 : Int32) * x1) + (h 51 (ix x1)))) x4)).trans ((u2_i _ _ _ (by omega)).trans ((u2_i _ _ _ (by omega)).trans ((u2_i _ _ _ (by omega)).trans rfl))))
theorem fv_M_alone_62 (fz c : Nat) (hc : c < 27) (x2 : Int32) (h : HH) : (B_M_alone_62 fz x2 h) c = h c := by
  unfold B_M_alone_62
  exact ((u2_i _ _ _ (by omega)).trans rfl)
theorem fv_M_alone_52 (fz c : Nat) (hc : c < 27) (x2 : Int32) (h : HH) : (B_M_alone_52 fz x2 h) c = h c := by
  unfold B_M_alone_52
  exact ((fv_M_alone_62 fz c hc x2 (u2 h 27 14 ((h 27 14) + (1 : Int32)))).trans ((u2_i _ _ _ (by omega)).trans rfl))
theorem fv_M_alone_31 (fz c : Nat) (hc : c < 27) (x2 : Int32) (h : HH) : (B_M_alone_31 fz x2 h) c = h c := by
  unfold B_M_alone_31
  split
  · exact ((fv_M_alone_52 fz c hc x2 (u2 h 39 (ix x2) (h 38 (ix x2)))).trans ((u2_i _ _ _ (by omega)).trans rfl))
  · exact rfl
theorem fv_M_alone_14 (fz c : Nat) (hc : c < 27) (x1 : Int32) (x2 : Int32) (h : HH) : (B_M_alone_14 fz x1 x2 h) c = h c := by
  unfold B_M_alone_14
  exact ((fv_M_alone_31 fz c hc x2 (u2 h 35 (ix (((32 : Int32) * x2) + (h 29 (ix x1)))) (1 : Int32))).trans ((u2_i _ _ _ (by omega)).trans rfl))
theorem fv_M_alone (fz c : Nat) (hc : c < 27) (x1 : Int32) (h : HH) : (B_M_alone fz x1 h) c = h c := by
  unfold B_M_alone
  exact ((fv_M_alone_14 fz c hc x1 (h 28 (ix x1)) (u2 h 32 (ix x1) (3 : Int32))).trans ((u2_i _ _ _ (by omega)).trans rfl))
theorem fv_M_turnInto_3 (fz c : Nat) (hc : c < 27) : ∀ (fu : Nat) (x1 : Int32) (x2 : Int32) (x3 : Int32) (x4 : Int32) (h : HH), (B_M_turnInto_3 fz fu x1 x2 x3 x4 h) c = h c := by
  intro fu
  induction fu with
  | zero =>
    intro x1 x2 x3 x4 h
    rfl
  | succ fu ih =>
    intro x1 x2 x3 x4 h
    rw [B_M_turnInto_3]
    split
    · exact rfl
    · split
      · split
        · exact ((ih x1 x2 x3 (x4 + 1) (u2 h 32 (ix x4) x3)).trans ((u2_i _ _ _ (by omega)).trans rfl))
        · exact ((ih x1 x2 x3 (x4 + 1) h).trans rfl)
      · exact ((ih x1 x2 x3 (x4 + 1) h).trans rfl)
theorem fv_M_turnInto (fz c : Nat) (hc : c < 27) (x1 : Int32) (x2 : Int32) (x3 : Int32) (h : HH) : (B_M_turnInto fz x1 x2 x3 h) c = h c := by
  unfold B_M_turnInto
  exact ((fv_M_turnInto_3 fz c hc fz x1 x2 x3 (1 : Int32) h).trans rfl)
theorem fv_M_endIfEmpty_37 (fz c : Nat) (hc : c < 27) (x1 : Int32) (h : HH) : (B_M_endIfEmpty_37 fz x1 h) c = h c := by
  unfold B_M_endIfEmpty_37
  exact ((fv_M_send fz c hc x1 (5 : Int32) (h 38 (ix x1)) (0 : Int32) h).trans rfl)
theorem fv_M_endIfEmpty_30 (fz c : Nat) (hc : c < 27) (x1 : Int32) (h : HH) : (B_M_endIfEmpty_30 fz x1 h) c = h c := by
  unfold B_M_endIfEmpty_30
  exact ((fv_M_endIfEmpty_37 fz c hc x1 (B_M_turnInto fz x1 (3 : Int32) (2 : Int32) h)).trans ((fv_M_turnInto fz c hc x1 (3 : Int32) (2 : Int32) h).trans rfl))
theorem fv_M_endIfEmpty (fz c : Nat) (hc : c < 27) (x1 : Int32) (h : HH) : (B_M_endIfEmpty fz x1 h) c = h c := by
  unfold B_M_endIfEmpty
  split
  · exact rfl
  · exact ((fv_M_endIfEmpty_30 fz c hc x1 (u2 (u2 (u2 h 44 (ix x1) (0 : Int32)) 41 (ix x1) (0 : Int32)) 39 (ix x1) (0 : Int32))).trans ((u2_i _ _ _ (by omega)).trans ((u2_i _ _ _ (by omega)).trans ((u2_i _ _ _ (by omega)).trans rfl))))
theorem fv_M_breakLink_41 (fz c : Nat) (hc : c < 27) : ∀ (fu : Nat) (x1 : Int32) (h : HH), (B_M_breakLink_41 fz fu x1 h) c = h c := by
  intro fu
  induction fu with
  | zero =>
    intro x1 h
    rfl
  | succ fu ih =>
    intro x1 h
    rw [B_M_breakLink_41]
    split
    · exact rfl
    · split
      · exact ((ih (x1 + 1) (B_M_alone fz x1 (u2 h 33 (ix x1) (0 : Int32)))).trans ((fv_M_alone fz c hc x1 (u2 h 33 (ix x1) (0 : Int32))).trans ((u2_i _ _ _ (by omega)).trans rfl)))
      · exact ((ih (x1 + 1) (u2 h 33 (ix x1) (0 : Int32))).trans ((u2_i _ _ _ (by omega)).trans rfl))
theorem fv_M_breakLink_7 (fz c : Nat) (hc : c < 27) : ∀ (fu : Nat) (x1 : Int32) (h : HH), (B_M_breakLink_7 fz fu x1 h) c = h c := by
  intro fu
  induction fu with
  | zero =>
    intro x1 h
    rfl
  | succ fu ih =>
    intro x1 h
    rw [B_M_breakLink_7]
    split
    · exact ((fv_M_breakLink_41 fz c hc fz (1 : Int32) h).trans rfl)
    · exact ((ih (x1 + 1) (u2 (u2 (u2 h 51 (ix x1) (0 : Int32)) 44 (ix x1) (0 : Int32)) 45 (ix x1) (0 : Int32))).trans ((u2_i _ _ _ (by omega)).trans ((u2_i _ _ _ (by omega)).trans ((u2_i _ _ _ (by omega)).trans rfl))))
theorem fv_M_breakLink (fz c : Nat) (hc : c < 27)  (h : HH) : (B_M_breakLink fz  h) c = h c := by
  unfold B_M_breakLink
  exact ((fv_M_breakLink_7 fz c hc fz (0 : Int32) (u2 h 27 23 (0 : Int32))).trans ((u2_i _ _ _ (by omega)).trans rfl))
theorem fv_M_write_298 (fz c : Nat) (hc : c < 27) (x1 : Int32) (x6 : Int32) (h : HH) : (B_M_write_298 fz x1 x6 h).2 c = h c := by
  unfold B_M_write_298
  exact ((fv_M_send fz c hc x1 (1 : Int32) x6 (0 : Int32) h).trans rfl)
theorem fv_M_write_283 (fz c : Nat) (hc : c < 27) (x1 : Int32) (x6 : Int32) (h : HH) : (B_M_write_283 fz x1 x6 h).2 c = h c := by
  unfold B_M_write_283
  split
  · exact ((fv_M_alone fz c hc x6 h).trans rfl)
  · exact ((fv_M_write_298 fz c hc x1 x6 (u2 h 32 (ix x6) (1 : Int32))).trans ((u2_i _ _ _ (by omega)).trans rfl))
theorem fv_M_write_254 (fz c : Nat) (hc : c < 27) (x1 : Int32) (x2 : Int32) (x3 : Int32) (x6 : Int32) (y1 : Int32) (y2 : Int32) (y3 : Int32) (h : HH) : (B_M_write_254 fz x1 x2 x3 x6 y1 y2 y3 h).2 c = h c := by
  unfold B_M_write_254
  exact ((fv_M_write_283 fz c hc x1 x6 (u2 (u2 (u2 (u2 h 31 (ix y1) (y2 + y3)) 47 (ix x1) x6) 46 (ix x1) (0 : Int32)) 34 (ix (((32 : Int32) * x1) + x2)) x3)).trans ((u2_i _ _ _ (by omega)).trans ((u2_i _ _ _ (by omega)).trans ((u2_i _ _ _ (by omega)).trans ((u2_i _ _ _ (by omega)).trans rfl)))))
theorem fv_M_write_227 (fz c : Nat) (hc : c < 27) (x1 : Int32) (x2 : Int32) (x3 : Int32) (x5 : Int32) (x6 : Int32) (h : HH) : (B_M_write_227 fz x1 x2 x3 x5 x6 h).2 c = h c := by
  unfold B_M_write_227
  split
  · exact ((fv_M_write_254 fz c hc x1 x2 x3 x6 x6 (h 31 (ix (h 47 (ix x1)))) (0 : Int32) h).trans rfl)
  · exact ((fv_M_write_254 fz c hc x1 x2 x3 x6 x6 (h 31 (ix (h 47 (ix x1)))) (1 : Int32) h).trans rfl)
theorem fv_M_write_197 (fz c : Nat) (hc : c < 27) (x1 : Int32) (x2 : Int32) (x3 : Int32) (x5 : Int32) (h : HH) : (B_M_write_197 fz x1 x2 x3 x5 h).2 c = h c := by
  unfold B_M_write_197
  exact ((fv_M_write_227 fz c hc x1 x2 x3 x5 (h 27 0) (u2 (u2 (u2 h 28 (ix (h 27 0)) x1) 29 (ix (h 27 0)) x2) 30 (ix (h 27 0)) x3)).trans ((u2_i _ _ _ (by omega)).trans ((u2_i _ _ _ (by omega)).trans ((u2_i _ _ _ (by omega)).trans rfl))))
theorem fv_M_write_185 (fz c : Nat) (hc : c < 27) (x1 : Int32) (x2 : Int32) (x3 : Int32) (y0 : Int32) (h : HH) : (B_M_write_185 fz x1 x2 x3 y0 h).2 c = h c := by
  unfold B_M_write_185
  exact ((fv_M_write_197 fz c hc x1 x2 x3 y0 (u2 h 27 0 ((h 27 0) + (1 : Int32)))).trans ((u2_i _ _ _ (by omega)).trans rfl))
theorem fv_M_write_180 (fz c : Nat) (hc : c < 27) (x1 : Int32) (x2 : Int32) (x3 : Int32) (h : HH) : (B_M_write_180 fz x1 x2 x3 h).2 c = h c := by
  unfold B_M_write_180
  exact ((fv_M_write_185 fz c hc x1 x2 x3 (1 : Int32) h).trans rfl)
theorem fv_M_write_152 (fz c : Nat) (hc : c < 27) (x1 : Int32) (x2 : Int32) (x3 : Int32) (h : HH) : (B_M_write_152 fz x1 x2 x3 h).2 c = h c := by
  unfold B_M_write_152
  split
  · exact ((fv_M_write_180 fz c hc x1 x2 x3 h).trans rfl)
  · split
    · split
      · exact ((fv_M_write_185 fz c hc x1 x2 x3 (0 : Int32) h).trans rfl)
      · exact ((fv_M_write_180 fz c hc x1 x2 x3 h).trans rfl)
    · exact ((fv_M_write_180 fz c hc x1 x2 x3 h).trans rfl)
theorem fv_M_write_141 (fz c : Nat) (hc : c < 27) (x1 : Int32) (x2 : Int32) (x3 : Int32) (x4 : Int32) (h : HH) : (B_M_write_141 fz x1 x2 x3 x4 h).2 c = h c := by
  unfold B_M_write_141
  exact ((fv_M_write_152 fz c hc x1 x2 x3 (u2 h 37 (ix x4) (h 27 11))).trans ((u2_i _ _ _ (by omega)).trans rfl))
theorem fv_M_write_131 (fz c : Nat) (hc : c < 27) (x1 : Int32) (x2 : Int32) (x3 : Int32) (x4 : Int32) (h : HH) : (B_M_write_131 fz x1 x2 x3 x4 h).2 c = h c := by
  unfold B_M_write_131
  exact ((fv_M_write_141 fz c hc x1 x2 x3 x4 (u2 h 27 11 ((h 27 11) + (1 : Int32)))).trans ((u2_i _ _ _ (by omega)).trans rfl))
theorem fv_M_write_123 (fz c : Nat) (hc : c < 27) (x1 : Int32) (x2 : Int32) (x3 : Int32) (x4 : Int32) (h : HH) : (B_M_write_123 fz x1 x2 x3 x4 h).2 c = h c := by
  unfold B_M_write_123
  exact ((fv_M_write_131 fz c hc x1 x2 x3 x4 (u2 h 36 (ix x4) (1 : Int32))).trans ((u2_i _ _ _ (by omega)).trans rfl))
theorem fv_M_write (fz c : Nat) (hc : c < 27) (x1 : Int32) (x2 : Int32) (x3 : Int32) (h : HH) : (B_M_write fz x1 x2 x3 h).2 c = h c := by
  unfold B_M_write
  split
  · exact rfl
  · split
    · exact rfl
    · split
      · exact rfl
      · split
        · exact rfl
        · split
          · exact rfl
          · split
            · split
              · split
                · split
                  · exact ((fv_M_write_123 fz c hc x1 x2 x3 (((8 : Int32) * x1) + (x2 / (4 : Int32))) (u2 h 36 (ix (((8 : Int32) * x1) + (B_M_idle fz x1 h))) (0 : Int32))).trans ((u2_i _ _ _ (by omega)).trans rfl))
                  · exact rfl
                · exact ((fv_M_write_123 fz c hc x1 x2 x3 (((8 : Int32) * x1) + (x2 / (4 : Int32))) h).trans rfl)
              · exact ((fv_M_write_123 fz c hc x1 x2 x3 (((8 : Int32) * x1) + (x2 / (4 : Int32))) h).trans rfl)
            · exact rfl
theorem fv_M_barrier (fz c : Nat) (hc : c < 27) (x1 : Int32) (h : HH) : (B_M_barrier fz x1 h).2 c = h c := by
  unfold B_M_barrier
  split
  · exact rfl
  · split
    · exact rfl
    · split
      · exact rfl
      · exact ((u2_i _ _ _ (by omega)).trans rfl)
theorem fv_M_arrive_139 (fz c : Nat) (hc : c < 27) : ∀ (fu : Nat) (x1 : Int32) (x3 : Int32) (x5 : Int32) (h : HH), (B_M_arrive_139 fz fu x1 x3 x5 h) c = h c := by
  intro fu
  induction fu with
  | zero =>
    intro x1 x3 x5 h
    rfl
  | succ fu ih =>
    intro x1 x3 x5 h
    rw [B_M_arrive_139]
    split
    · exact ((u2_i _ _ _ (by omega)).trans ((u2_i _ _ _ (by omega)).trans rfl))
    · exact ((ih x1 x3 (x5 + 1) (u2 h 35 (ix (((32 : Int32) * x1) + x5)) (0 : Int32))).trans ((u2_i _ _ _ (by omega)).trans rfl))
theorem fv_M_arrive_107 (fz c : Nat) (hc : c < 27) (x1 : Int32) (h : HH) : (B_M_arrive_107 fz x1 h) c = h c := by
  unfold B_M_arrive_107
  exact ((fv_M_endIfEmpty fz c hc x1 h).trans rfl)
theorem fv_M_arrive_79 (fz c : Nat) (hc : c < 27) (x1 : Int32) (x3 : Int32) (h : HH) : (B_M_arrive_79 fz x1 x3 h) c = h c := by
  unfold B_M_arrive_79
  exact ((fv_M_send fz c hc x1 (4 : Int32) x3 (0 : Int32) h).trans rfl)
theorem fv_M_arrive_53 (fz c : Nat) (hc : c < 27) (x1 : Int32) (h : HH) : (B_M_arrive_53 fz x1 h) c = h c := by
  unfold B_M_arrive_53
  exact ((fv_M_endIfEmpty fz c hc x1 h).trans rfl)
theorem fv_M_arrive_27 (fz c : Nat) (hc : c < 27) (x1 : Int32) (x3 : Int32) (h : HH) : (B_M_arrive_27 fz x1 x3 h) c = h c := by
  unfold B_M_arrive_27
  split
  · exact rfl
  · exact ((fv_M_arrive_53 fz c hc x1 (u2 h 35 (ix (((32 : Int32) * x1) + (h 29 (ix x3)))) (0 : Int32))).trans ((u2_i _ _ _ (by omega)).trans rfl))
theorem fv_M_arrive (fz c : Nat) (hc : c < 27) (x1 : Int32) (x2 : Int32) (x3 : Int32) (x4 : Int32) (h : HH) : (B_M_arrive fz x1 x2 x3 x4 h) c = h c := by
  unfold B_M_arrive
  split
  · exact ((u2_i _ _ _ (by omega)).trans rfl)
  · split
    · exact ((fv_M_arrive_27 fz c hc x1 x3 (u2 h 32 (ix x3) (2 : Int32))).trans ((u2_i _ _ _ (by omega)).trans rfl))
    · split
      · exact ((fv_M_arrive_79 fz c hc x1 x3 (u2 h 34 (ix (((32 : Int32) * x1) + x3)) x4)).trans ((u2_i _ _ _ (by omega)).trans rfl))
      · split
        · exact ((fv_M_arrive_107 fz c hc x1 (u2 h 35 (ix (((32 : Int32) * x1) + x3)) (0 : Int32))).trans ((u2_i _ _ _ (by omega)).trans rfl))
        · exact ((fv_M_arrive_139 fz c hc fz x1 x3 (0 : Int32) (u2 (u2 (u2 h 45 (ix x1) (0 : Int32)) 40 (ix x1) (0 : Int32)) 41 (ix x1) (0 : Int32))).trans ((u2_i _ _ _ (by omega)).trans ((u2_i _ _ _ (by omega)).trans ((u2_i _ _ _ (by omega)).trans rfl))))
theorem fv_M_deliver_59 (fz c : Nat) (hc : c < 27) : ∀ (fu : Nat) (x1 : Int32) (x2 : Int32) (x3 : Int32) (x4 : Int32) (x5 : Int32) (x6 : Int32) (h : HH), (B_M_deliver_59 fz fu x1 x2 x3 x4 x5 x6 h).2 c = h c := by
  intro fu
  induction fu with
  | zero =>
    intro x1 x2 x3 x4 x5 x6 h
    rfl
  | succ fu ih =>
    intro x1 x2 x3 x4 x5 x6 h
    rw [B_M_deliver_59]
    split
    · exact ((fv_M_arrive fz c hc ((1 : Int32) - x1) x3 x4 x5 h).trans rfl)
    · exact ((ih x1 x2 x3 x4 x5 (x6 + 1) (u2 (u2 (u2 h 48 (ix x6) (h 48 (ix (x6 + (1 : Int32))))) 49 (ix x6) ((u2 h 48 (ix x6) (h 48 (ix (x6 + (1 : Int32))))) 49 (ix (x6 + (1 : Int32))))) 50 (ix x6) ((u2 (u2 h 48 (ix x6) (h 48 (ix (x6 + (1 : Int32))))) 49 (ix x6) ((u2 h 48 (ix x6) (h 48 (ix (x6 + (1 : Int32))))) 49 (ix (x6 + (1 : Int32))))) 50 (ix (x6 + (1 : Int32)))))).trans ((u2_i _ _ _ (by omega)).trans ((u2_i _ _ _ (by omega)).trans ((u2_i _ _ _ (by omega)).trans rfl))))
theorem fv_M_deliver_56 (fz c : Nat) (hc : c < 27) (x1 : Int32) (x2 : Int32) (x3 : Int32) (x4 : Int32) (x5 : Int32) (h : HH) : (B_M_deliver_56 fz x1 x2 x3 x4 x5 h).2 c = h c := by
  unfold B_M_deliver_56
  exact ((fv_M_deliver_59 fz c hc fz x1 x2 x3 x4 x5 x2 h).trans rfl)
theorem fv_M_deliver (fz c : Nat) (hc : c < 27) (x1 : Int32) (h : HH) : (B_M_deliver fz x1 h).2 c = h c := by
  unfold B_M_deliver
  split
  · exact rfl
  · split
    · exact rfl
    · exact ((fv_M_deliver_56 fz c hc x1 ((64 : Int32) * x1) (h 48 (ix ((64 : Int32) * x1))) (h 49 (ix ((64 : Int32) * x1))) (h 50 (ix ((64 : Int32) * x1))) (u2 h 51 (ix x1) ((h 51 (ix x1)) - (1 : Int32)))).trans ((u2_i _ _ _ (by omega)).trans rfl))
theorem fv_M_store_114 (fz c : Nat) (hc : c < 27) (x1 : Int32) (x5 : Int32) (h : HH) : (B_M_store_114 fz x1 x5 h).2 c = h c := by
  unfold B_M_store_114
  exact ((fv_M_send fz c hc x1 (2 : Int32) x5 (0 : Int32) h).trans rfl)
theorem fv_M_store_90 (fz c : Nat) (hc : c < 27) (x1 : Int32) (x5 : Int32) (h : HH) : (B_M_store_90 fz x1 x5 h).2 c = h c := by
  unfold B_M_store_90
  exact ((fv_M_store_114 fz c hc x1 x5 (u2 h 34 (ix (((32 : Int32) * x1) + (h 29 (ix x5)))) (h 30 (ix x5)))).trans ((u2_i _ _ _ (by omega)).trans rfl))
theorem fv_M_store_21 (fz c : Nat) (hc : c < 27) : ∀ (fu : Nat) (x1 : Int32) (x2 : Int32) (x3 : Int32) (x4 : Int32) (x5 : Int32) (h : HH), (B_M_store_21 fz fu x1 x2 x3 x4 x5 h).2 c = h c := by
  intro fu
  induction fu with
  | zero =>
    intro x1 x2 x3 x4 x5 h
    rfl
  | succ fu ih =>
    intro x1 x2 x3 x4 x5 h
    rw [B_M_store_21]
    split
    · exact rfl
    · split
      · exact ((ih x1 x2 x3 x4 (x5 + 1) h).trans rfl)
      · split
        · split
          · split
            · split
              · exact ((fv_M_store_90 fz c hc x1 x5 (u2 h 33 (ix x5) (0 : Int32))).trans ((u2_i _ _ _ (by omega)).trans rfl))
              · exact ((ih x1 x2 x5 (x4 + 1) (x5 + 1) h).trans rfl)
            · exact ((ih x1 x2 x5 x4 (x5 + 1) h).trans rfl)
          · split
            · split
              · exact ((fv_M_store_90 fz c hc x1 x5 (u2 h 33 (ix x5) (0 : Int32))).trans ((u2_i _ _ _ (by omega)).trans rfl))
              · exact ((ih x1 x2 x3 (x4 + 1) (x5 + 1) h).trans rfl)
            · exact ((ih x1 x2 x3 x4 (x5 + 1) h).trans rfl)
        · exact ((ih x1 x2 x3 x4 (x5 + 1) h).trans rfl)
theorem fv_M_store (fz c : Nat) (hc : c < 27) (x1 : Int32) (x2 : Int32) (h : HH) : (B_M_store fz x1 x2 h).2 c = h c := by
  unfold B_M_store
  split
  · exact rfl
  · split
    · exact ((fv_M_store_21 fz c hc fz x1 x2 (0 : Int32) (0 : Int32) (1 : Int32) h).trans rfl)
    · exact rfl
theorem fv_M_copy_30 (fz c : Nat) (hc : c < 27) : ∀ (fu : Nat) (x1 : Int32) (x2 : Int32) (h : HH), (B_M_copy_30 fz fu x1 x2 h).2 c = h c := by
  intro fu
  induction fu with
  | zero =>
    intro x1 x2 h
    rfl
  | succ fu ih =>
    intro x1 x2 h
    rw [B_M_copy_30]
    split
    · exact rfl
    · split
      · exact ((ih x1 (x2 + 1) h).trans rfl)
      · split
        · split
          · exact ((fv_M_send fz c hc x1 (3 : Int32) x2 (h 34 (ix (((32 : Int32) * x1) + x2))) h).trans rfl)
          · exact ((ih x1 (x2 + 1) h).trans rfl)
        · exact ((ih x1 (x2 + 1) h).trans rfl)
theorem fv_M_copy (fz c : Nat) (hc : c < 27) (x1 : Int32) (h : HH) : (B_M_copy fz x1 h).2 c = h c := by
  unfold B_M_copy
  split
  · exact rfl
  · split
    · exact rfl
    · split
      · exact ((fv_M_copy_30 fz c hc fz x1 (0 : Int32) h).trans rfl)
      · exact rfl
theorem fv_M_connect_232 (fz c : Nat) (hc : c < 27) (x1 : Int32) (h : HH) : (B_M_connect_232 fz x1 h).2 c = h c := by
  unfold B_M_connect_232
  exact ((fv_M_endIfEmpty fz c hc x1 h).trans rfl)
theorem fv_M_connect_147 (fz c : Nat) (hc : c < 27) : ∀ (fu : Nat) (x1 : Int32) (x2 : Int32) (x3 : Int32) (x4 : Int32) (h : HH), (B_M_connect_147 fz fu x1 x2 x3 x4 h).2 c = h c := by
  intro fu
  induction fu with
  | zero =>
    intro x1 x2 x3 x4 h
    rfl
  | succ fu ih =>
    intro x1 x2 x3 x4 h
    rw [B_M_connect_147]
    split
    · exact ((fv_M_connect_232 fz c hc x1 (u2 (u2 (u2 h 44 (ix x1) (1 : Int32)) 45 (ix x2) (1 : Int32)) 40 (ix x2) (1 : Int32))).trans ((u2_i _ _ _ (by omega)).trans ((u2_i _ _ _ (by omega)).trans ((u2_i _ _ _ (by omega)).trans rfl))))
    · split
      · split
        · split
          · exact ((ih x1 x2 x3 (x4 + 1) (u2 h 35 (ix (((32 : Int32) * x1) + x4)) (0 : Int32))).trans ((u2_i _ _ _ (by omega)).trans rfl))
          · exact ((ih x1 x2 x3 (x4 + 1) (u2 h 35 (ix (((32 : Int32) * x1) + x4)) (1 : Int32))).trans ((u2_i _ _ _ (by omega)).trans rfl))
        · exact ((ih x1 x2 x3 (x4 + 1) (u2 h 35 (ix (((32 : Int32) * x1) + x4)) (1 : Int32))).trans ((u2_i _ _ _ (by omega)).trans rfl))
      · exact ((ih x1 x2 x3 (x4 + 1) (u2 h 35 (ix (((32 : Int32) * x1) + x4)) (1 : Int32))).trans ((u2_i _ _ _ (by omega)).trans rfl))
theorem fv_M_connect_143 (fz c : Nat) (hc : c < 27) (x1 : Int32) (x2 : Int32) (y0 : Int32) (h : HH) : (B_M_connect_143 fz x1 x2 y0 h).2 c = h c := by
  unfold B_M_connect_143
  exact ((fv_M_connect_147 fz c hc fz x1 x2 y0 (0 : Int32) h).trans rfl)
theorem fv_M_connect_138 (fz c : Nat) (hc : c < 27) (x1 : Int32) (x2 : Int32) (h : HH) : (B_M_connect_138 fz x1 x2 h).2 c = h c := by
  unfold B_M_connect_138
  exact ((fv_M_connect_143 fz c hc x1 x2 (1 : Int32) h).trans rfl)
theorem fv_M_connect_142 (fz c : Nat) (hc : c < 27) (x1 : Int32) (x2 : Int32) (h : HH) : (B_M_connect_142 fz x1 x2 h).2 c = h c := by
  unfold B_M_connect_142
  exact ((fv_M_connect_143 fz c hc x1 x2 (0 : Int32) h).trans rfl)
theorem fv_M_connect_95 (fz c : Nat) (hc : c < 27) (x1 : Int32) (h : HH) : (B_M_connect_95 fz x1 h).2 c = h c := by
  unfold B_M_connect_95
  split
  · exact ((fv_M_connect_138 fz c hc x1 ((1 : Int32) - x1) h).trans rfl)
  · split
    · exact ((fv_M_connect_142 fz c hc x1 ((1 : Int32) - x1) h).trans rfl)
    · split
      · exact ((fv_M_connect_142 fz c hc x1 ((1 : Int32) - x1) h).trans rfl)
      · exact ((fv_M_connect_138 fz c hc x1 ((1 : Int32) - x1) h).trans rfl)
theorem fv_M_connect_84 (fz c : Nat) (hc : c < 27) (x1 : Int32) (h : HH) : (B_M_connect_84 fz x1 h).2 c = h c := by
  unfold B_M_connect_84
  split
  · exact ((fv_M_connect_95 fz c hc x1 (u2 h 27 23 (1 : Int32))).trans ((u2_i _ _ _ (by omega)).trans rfl))
  · exact ((u2_i _ _ _ (by omega)).trans rfl)
theorem fv_M_connect_52 (fz c : Nat) (hc : c < 27)  (h : HH) : (B_M_connect_52 fz  h).2 c = h c := by
  unfold B_M_connect_52
  split
  · exact rfl
  · split
    · exact ((fv_M_connect_84 fz c hc (B_M_chosen fz  h) h).trans rfl)
    · split
      · exact ((fv_M_connect_84 fz c hc (B_M_chosen fz  h) h).trans rfl)
      · exact rfl
theorem fv_M_connect (fz c : Nat) (hc : c < 27)  (h : HH) : (B_M_connect fz  h).2 c = h c := by
  unfold B_M_connect
  split
  · exact rfl
  · split
    · exact rfl
    · split
      · split
        · exact ((fv_M_connect_52 fz c hc  h).trans rfl)
        · split
          · exact ((fv_M_connect_52 fz c hc  h).trans rfl)
          · exact rfl
      · exact rfl
theorem fv_M_cut (fz c : Nat) (hc : c < 27)  (h : HH) : (B_M_cut fz  h).2 c = h c := by
  unfold B_M_cut
  split
  · exact rfl
  · exact ((fv_M_breakLink fz c hc  h).trans rfl)
theorem fv_M_crash_75 (fz c : Nat) (hc : c < 27)  (h : HH) : (B_M_crash_75 fz  h).2 c = h c := by
  unfold B_M_crash_75
  split
  · exact rfl
  · exact ((fv_M_breakLink fz c hc  h).trans rfl)
theorem fv_M_crash_62 (fz c : Nat) (hc : c < 27) (x1 : Int32) (y1 : Int32) (h : HH) : (B_M_crash_62 fz x1 y1 h).2 c = h c := by
  unfold B_M_crash_62
  exact ((fv_M_crash_75 fz c hc  (u2 (u2 h 41 (ix y1) (1 : Int32)) 43 (ix x1) (0 : Int32))).trans ((u2_i _ _ _ (by omega)).trans ((u2_i _ _ _ (by omega)).trans rfl)))
theorem fv_M_crash_39 (fz c : Nat) (hc : c < 27) (x1 : Int32) (h : HH) : (B_M_crash_39 fz x1 h).2 c = h c := by
  unfold B_M_crash_39
  split
  · split
    · exact ((fv_M_crash_75 fz c hc  (u2 (u2 h 41 (ix x1) (0 : Int32)) 43 (ix x1) (0 : Int32))).trans ((u2_i _ _ _ (by omega)).trans ((u2_i _ _ _ (by omega)).trans rfl)))
    · exact ((fv_M_crash_62 fz c hc x1 x1 h).trans rfl)
  · exact ((fv_M_crash_62 fz c hc x1 x1 h).trans rfl)
theorem fv_M_crash_32 (fz c : Nat) (hc : c < 27) (x1 : Int32) (h : HH) : (B_M_crash_32 fz x1 h).2 c = h c := by
  unfold B_M_crash_32
  exact ((fv_M_crash_39 fz c hc x1 (B_M_turnInto fz x1 (3 : Int32) (4 : Int32) h)).trans ((fv_M_turnInto fz c hc x1 (3 : Int32) (4 : Int32) h).trans rfl))
theorem fv_M_crash_25 (fz c : Nat) (hc : c < 27) (x1 : Int32) (h : HH) : (B_M_crash_25 fz x1 h).2 c = h c := by
  unfold B_M_crash_25
  exact ((fv_M_crash_32 fz c hc x1 (B_M_turnInto fz x1 (1 : Int32) (4 : Int32) h)).trans ((fv_M_turnInto fz c hc x1 (1 : Int32) (4 : Int32) h).trans rfl))
theorem fv_M_crash (fz c : Nat) (hc : c < 27) (x1 : Int32) (h : HH) : (B_M_crash fz x1 h).2 c = h c := by
  unfold B_M_crash
  split
  · exact rfl
  · split
    · exact rfl
    · exact ((fv_M_crash_25 fz c hc x1 (u2 h 42 (ix x1) (0 : Int32))).trans ((u2_i _ _ _ (by omega)).trans rfl))
theorem fv_M_restart_27 (fz c : Nat) (hc : c < 27) : ∀ (fu : Nat) (x1 : Int32) (x2 : Int32) (h : HH), (B_M_restart_27 fz fu x1 x2 h).2 c = h c := by
  intro fu
  induction fu with
  | zero =>
    intro x1 x2 h
    rfl
  | succ fu ih =>
    intro x1 x2 h
    rw [B_M_restart_27]
    split
    · exact rfl
    · split
      · exact ((ih x1 (x2 + 1) h).trans rfl)
      · split
        · exact ((ih x1 (x2 + 1) h).trans rfl)
        · exact ((ih x1 (x2 + 1) (u2 h 35 (ix (((32 : Int32) * x1) + x2)) (1 : Int32))).trans ((u2_i _ _ _ (by omega)).trans rfl))
theorem fv_M_restart (fz c : Nat) (hc : c < 27) (x1 : Int32) (h : HH) : (B_M_restart fz x1 h).2 c = h c := by
  unfold B_M_restart
  split
  · exact rfl
  · split
    · exact ((fv_M_restart_27 fz c hc fz x1 (0 : Int32) (u2 h 42 (ix x1) (1 : Int32))).trans ((u2_i _ _ _ (by omega)).trans rfl))
    · exact rfl
theorem fv_M_promote_54 (fz c : Nat) (hc : c < 27) (x1 : Int32) (h : HH) : (B_M_promote_54 fz x1 h).2 c = h c := by
  unfold B_M_promote_54
  exact ((u2_i _ _ _ (by omega)).trans rfl)
theorem fv_M_promote (fz c : Nat) (hc : c < 27) (x1 : Int32) (h : HH) : (B_M_promote fz x1 h).2 c = h c := by
  unfold B_M_promote
  split
  · exact rfl
  · split
    · exact rfl
    · split
      · split
        · exact ((fv_M_promote_54 fz c hc x1 h).trans rfl)
        · split
          · exact ((fv_M_promote_54 fz c hc x1 h).trans rfl)
          · exact rfl
      · exact rfl
theorem fv_M_demote (fz c : Nat) (hc : c < 27) (x1 : Int32) (h : HH) : (B_M_demote fz x1 h).2 c = h c := by
  unfold B_M_demote
  split
  · exact rfl
  · split
    · exact rfl
    · split
      · exact rfl
      · split
        · exact ((u2_i _ _ _ (by omega)).trans rfl)
        · exact rfl
theorem fv_M_discard_75 (fz c : Nat) (hc : c < 27) : ∀ (fu : Nat) (x1 : Int32) (x2 : Int32) (h : HH), (B_M_discard_75 fz fu x1 x2 h).2 c = h c := by
  intro fu
  induction fu with
  | zero =>
    intro x1 x2 h
    rfl
  | succ fu ih =>
    intro x1 x2 h
    rw [B_M_discard_75]
    split
    · exact ((fv_M_turnInto fz c hc x1 (3 : Int32) (4 : Int32) h).trans rfl)
    · exact ((ih x1 (x2 + 1) (u2 h 35 (ix (((32 : Int32) * x1) + x2)) (0 : Int32))).trans ((u2_i _ _ _ (by omega)).trans rfl))
theorem fv_M_discard (fz c : Nat) (hc : c < 27) (x1 : Int32) (h : HH) : (B_M_discard fz x1 h).2 c = h c := by
  unfold B_M_discard
  split
  · exact rfl
  · split
    · exact rfl
    · split
      · split
        · split
          · exact ((fv_M_discard_75 fz c hc fz x1 (0 : Int32) (u2 (u2 (u2 (u2 h 40 (ix x1) (1 : Int32)) 41 (ix x1) (0 : Int32)) 38 (ix x1) (0 : Int32)) 39 (ix x1) (0 : Int32))).trans ((u2_i _ _ _ (by omega)).trans ((u2_i _ _ _ (by omega)).trans ((u2_i _ _ _ (by omega)).trans ((u2_i _ _ _ (by omega)).trans rfl)))))
          · exact rfl
        · exact rfl
      · exact rfl
