theorem J2.v {t : Nat} {v v2 m : HH} (h : J2 t v m) (hv : ∀ c, c < 27 → v2 c = v c) : J2 t v2 m := by
  obtain ⟨n, own, blk, ep, ft, sc, lk, gr, mp, un, q, wt, wx, lg, us, pv, hR, hI⟩ := h
  refine ⟨n, own, blk, ep, ft, sc, lk, gr, mp, un, q, wt, wx, lg, us, pv, ?_, hI⟩
  unfold Rel at hR ⊢
  rw [hv 0 (by decide), hv 1 (by decide), hv 2 (by decide), hv 3 (by decide), hv 4 (by decide), hv 5 (by decide), hv 6 (by decide), hv 7 (by decide), hv 8 (by decide), hv 9 (by decide), hv 10 (by decide), hv 11 (by decide), hv 12 (by decide), hv 13 (by decide), hv 14 (by decide), hv 15 (by decide), hv 16 (by decide), hv 17 (by decide), hv 18 (by decide), hv 19 (by decide), hv 20 (by decide), hv 21 (by decide), hv 22 (by decide), hv 23 (by decide), hv 24 (by decide), hv 25 (by decide), hv 26 (by decide)]
  exact hR
theorem J2.m {t : Nat} {v m m2 : HH} (h : J2 t v m) (hm : ∀ c, 27 ≤ c → m2 c = m c) : J2 t v m2 := by
  obtain ⟨n, own, blk, ep, ft, sc, lk, gr, mp, un, q, wt, wx, lg, us, pv, hR, hI⟩ := h
  refine ⟨n, own, blk, ep, ft, sc, lk, gr, mp, un, q, wt, wx, lg, us, pv, ?_, hI⟩
  unfold Rel at hR ⊢
  rw [hm 27 (by decide), hm 28 (by decide), hm 29 (by decide), hm 30 (by decide), hm 31 (by decide), hm 32 (by decide), hm 33 (by decide), hm 34 (by decide), hm 35 (by decide), hm 36 (by decide), hm 37 (by decide), hm 38 (by decide), hm 39 (by decide), hm 40 (by decide), hm 41 (by decide), hm 42 (by decide), hm 43 (by decide), hm 44 (by decide), hm 45 (by decide), hm 46 (by decide), hm 47 (by decide), hm 48 (by decide), hm 49 (by decide), hm 50 (by decide), hm 51 (by decide)]
  exact hR
theorem X_write (fz : Nat) (hz : 400 ≤ fz) {t : Nat} (ht : t ≤ 600) {h : HH} (hJ : J2 t h h) (x y z : Int32) : P_V_write fz x y z h ∧ P_M_write fz x y z (B_V_write fz x y z h).2 ∧ (B_V_write fz x y z h).1 = (B_M_write fz x y z (B_V_write fz x y z h).2).1 ∧ J2 (t + 1) (B_M_write fz x y z (B_V_write fz x y z h).2).2 (B_M_write fz x y z (B_V_write fz x y z h).2).2 := by
  have hJ1 : J2 t h (B_V_write fz x y z h).2 := hJ.m (fun c hc => fv_V_write fz c hc x y z h)
  obtain ⟨p1, p2, e, hJ2⟩ := S_write fz hz ht hJ1 x y z
  exact ⟨p1, p2, e, hJ2.v (fun c hc => fv_M_write fz c hc x y z _)⟩
theorem X_barrier (fz : Nat) (hz : 400 ≤ fz) {t : Nat} (ht : t ≤ 600) {h : HH} (hJ : J2 t h h) (x : Int32) : P_V_barrier fz x h ∧ P_M_barrier fz x (B_V_barrier fz x h).2 ∧ (B_V_barrier fz x h).1 = (B_M_barrier fz x (B_V_barrier fz x h).2).1 ∧ J2 (t + 1) (B_M_barrier fz x (B_V_barrier fz x h).2).2 (B_M_barrier fz x (B_V_barrier fz x h).2).2 := by
  have hJ1 : J2 t h (B_V_barrier fz x h).2 := hJ.m (fun c hc => fv_V_barrier fz c hc x h)
  obtain ⟨p1, p2, e, hJ2⟩ := S_barrier fz hz ht hJ1 x
  exact ⟨p1, p2, e, hJ2.v (fun c hc => fv_M_barrier fz c hc x _)⟩
theorem X_deliver (fz : Nat) (hz : 400 ≤ fz) {t : Nat} (ht : t ≤ 600) {h : HH} (hJ : J2 t h h) (x : Int32) : P_V_deliver fz x h ∧ P_M_deliver fz x (B_V_deliver fz x h).2 ∧ (B_V_deliver fz x h).1 = (B_M_deliver fz x (B_V_deliver fz x h).2).1 ∧ J2 (t + 1) (B_M_deliver fz x (B_V_deliver fz x h).2).2 (B_M_deliver fz x (B_V_deliver fz x h).2).2 := by
  have hJ1 : J2 t h (B_V_deliver fz x h).2 := hJ.m (fun c hc => fv_V_deliver fz c hc x h)
  obtain ⟨p1, p2, e, hJ2⟩ := S_deliver fz hz ht hJ1 x
  exact ⟨p1, p2, e, hJ2.v (fun c hc => fv_M_deliver fz c hc x _)⟩
theorem X_store (fz : Nat) (hz : 400 ≤ fz) {t : Nat} (ht : t ≤ 600) {h : HH} (hJ : J2 t h h) (x y : Int32) : P_V_store fz x y h ∧ P_M_store fz x y (B_V_store fz x y h).2 ∧ (B_V_store fz x y h).1 = (B_M_store fz x y (B_V_store fz x y h).2).1 ∧ J2 (t + 1) (B_M_store fz x y (B_V_store fz x y h).2).2 (B_M_store fz x y (B_V_store fz x y h).2).2 := by
  have hJ1 : J2 t h (B_V_store fz x y h).2 := hJ.m (fun c hc => fv_V_store fz c hc x y h)
  obtain ⟨p1, p2, e, hJ2⟩ := S_store fz hz ht hJ1 x y
  exact ⟨p1, p2, e, hJ2.v (fun c hc => fv_M_store fz c hc x y _)⟩
theorem X_copy (fz : Nat) (hz : 400 ≤ fz) {t : Nat} (ht : t ≤ 600) {h : HH} (hJ : J2 t h h) (x : Int32) : P_V_copy fz x h ∧ P_M_copy fz x (B_V_copy fz x h).2 ∧ (B_V_copy fz x h).1 = (B_M_copy fz x (B_V_copy fz x h).2).1 ∧ J2 (t + 1) (B_M_copy fz x (B_V_copy fz x h).2).2 (B_M_copy fz x (B_V_copy fz x h).2).2 := by
  have hJ1 : J2 t h (B_V_copy fz x h).2 := hJ.m (fun c hc => fv_V_copy fz c hc x h)
  obtain ⟨p1, p2, e, hJ2⟩ := S_copy fz hz ht hJ1 x
  exact ⟨p1, p2, e, hJ2.v (fun c hc => fv_M_copy fz c hc x _)⟩
theorem X_connect (fz : Nat) (hz : 400 ≤ fz) {t : Nat} (ht : t ≤ 600) {h : HH} (hJ : J2 t h h) : P_V_connect fz h ∧ P_M_connect fz (B_V_connect fz h).2 ∧ (B_V_connect fz h).1 = (B_M_connect fz (B_V_connect fz h).2).1 ∧ J2 (t + 1) (B_M_connect fz (B_V_connect fz h).2).2 (B_M_connect fz (B_V_connect fz h).2).2 := by
  have hJ1 : J2 t h (B_V_connect fz h).2 := hJ.m (fun c hc => fv_V_connect fz c hc h)
  obtain ⟨p1, p2, e, hJ2⟩ := S_connect fz hz ht hJ1
  exact ⟨p1, p2, e, hJ2.v (fun c hc => fv_M_connect fz c hc _)⟩
theorem X_cut (fz : Nat) (hz : 400 ≤ fz) {t : Nat} (ht : t ≤ 600) {h : HH} (hJ : J2 t h h) : P_V_cut fz h ∧ P_M_cut fz (B_V_cut fz h).2 ∧ (B_V_cut fz h).1 = (B_M_cut fz (B_V_cut fz h).2).1 ∧ J2 (t + 1) (B_M_cut fz (B_V_cut fz h).2).2 (B_M_cut fz (B_V_cut fz h).2).2 := by
  have hJ1 : J2 t h (B_V_cut fz h).2 := hJ.m (fun c hc => fv_V_cut fz c hc h)
  obtain ⟨p1, p2, e, hJ2⟩ := S_cut fz hz ht hJ1
  exact ⟨p1, p2, e, hJ2.v (fun c hc => fv_M_cut fz c hc _)⟩
theorem X_crash (fz : Nat) (hz : 400 ≤ fz) {t : Nat} (ht : t ≤ 600) {h : HH} (hJ : J2 t h h) (x : Int32) : P_V_crash fz x h ∧ P_M_crash fz x (B_V_crash fz x h).2 ∧ (B_V_crash fz x h).1 = (B_M_crash fz x (B_V_crash fz x h).2).1 ∧ J2 (t + 1) (B_M_crash fz x (B_V_crash fz x h).2).2 (B_M_crash fz x (B_V_crash fz x h).2).2 := by
  have hJ1 : J2 t h (B_V_crash fz x h).2 := hJ.m (fun c hc => fv_V_crash fz c hc x h)
  obtain ⟨p1, p2, e, hJ2⟩ := S_crash fz hz ht hJ1 x
  exact ⟨p1, p2, e, hJ2.v (fun c hc => fv_M_crash fz c hc x _)⟩
theorem X_restart (fz : Nat) (hz : 400 ≤ fz) {t : Nat} (ht : t ≤ 600) {h : HH} (hJ : J2 t h h) (x : Int32) : P_V_restart fz x h ∧ P_M_restart fz x (B_V_restart fz x h).2 ∧ (B_V_restart fz x h).1 = (B_M_restart fz x (B_V_restart fz x h).2).1 ∧ J2 (t + 1) (B_M_restart fz x (B_V_restart fz x h).2).2 (B_M_restart fz x (B_V_restart fz x h).2).2 := by
  have hJ1 : J2 t h (B_V_restart fz x h).2 := hJ.m (fun c hc => fv_V_restart fz c hc x h)
  obtain ⟨p1, p2, e, hJ2⟩ := S_restart fz hz ht hJ1 x
  exact ⟨p1, p2, e, hJ2.v (fun c hc => fv_M_restart fz c hc x _)⟩
theorem X_promote (fz : Nat) (hz : 400 ≤ fz) {t : Nat} (ht : t ≤ 600) {h : HH} (hJ : J2 t h h) (x : Int32) : P_V_promote fz x h ∧ P_M_promote fz x (B_V_promote fz x h).2 ∧ (B_V_promote fz x h).1 = (B_M_promote fz x (B_V_promote fz x h).2).1 ∧ J2 (t + 1) (B_M_promote fz x (B_V_promote fz x h).2).2 (B_M_promote fz x (B_V_promote fz x h).2).2 := by
  have hJ1 : J2 t h (B_V_promote fz x h).2 := hJ.m (fun c hc => fv_V_promote fz c hc x h)
  obtain ⟨p1, p2, e, hJ2⟩ := S_promote fz hz ht hJ1 x
  exact ⟨p1, p2, e, hJ2.v (fun c hc => fv_M_promote fz c hc x _)⟩
theorem X_demote (fz : Nat) (hz : 400 ≤ fz) {t : Nat} (ht : t ≤ 600) {h : HH} (hJ : J2 t h h) (x : Int32) : P_V_demote fz x h ∧ P_M_demote fz x (B_V_demote fz x h).2 ∧ (B_V_demote fz x h).1 = (B_M_demote fz x (B_V_demote fz x h).2).1 ∧ J2 (t + 1) (B_M_demote fz x (B_V_demote fz x h).2).2 (B_M_demote fz x (B_V_demote fz x h).2).2 := by
  have hJ1 : J2 t h (B_V_demote fz x h).2 := hJ.m (fun c hc => fv_V_demote fz c hc x h)
  obtain ⟨p1, p2, e, hJ2⟩ := S_demote fz hz ht hJ1 x
  exact ⟨p1, p2, e, hJ2.v (fun c hc => fv_M_demote fz c hc x _)⟩
theorem X_discard (fz : Nat) (hz : 400 ≤ fz) {t : Nat} (ht : t ≤ 600) {h : HH} (hJ : J2 t h h) (x : Int32) : P_V_discard fz x h ∧ P_M_discard fz x (B_V_discard fz x h).2 ∧ (B_V_discard fz x h).1 = (B_M_discard fz x (B_V_discard fz x h).2).1 ∧ J2 (t + 1) (B_M_discard fz x (B_V_discard fz x h).2).2 (B_M_discard fz x (B_V_discard fz x h).2).2 := by
  have hJ1 : J2 t h (B_V_discard fz x h).2 := hJ.m (fun c hc => fv_V_discard fz c hc x h)
  obtain ⟨p1, p2, e, hJ2⟩ := S_discard fz hz ht hJ1 x
  exact ⟨p1, p2, e, hJ2.v (fun c hc => fv_M_discard fz c hc x _)⟩
theorem J2_start : J2 0 (u2 (u2 (u2 (u2 (u2 (u2 (u2 (u2 (u2 (u2 (u2 (u2 (u2 (u2 (u2 (fun _ _ => 0) 1 0 (0 : Int32)) 1 6 (1 : Int32)) 1 10 (1 : Int32)) 1 16 (1 : Int32)) 11 0 (1 : Int32)) 11 6 (1 : Int32)) 11 10 (1 : Int32)) 11 16 (1 : Int32)) 0 3 (0 : Int32)) 0 4 (1 : Int32)) 27 14 (1 : Int32)) 38 (ix (0 : Int32)) (1 : Int32)) 42 (ix (0 : Int32)) (1 : Int32)) 38 (ix ((0 : Int32) + 1)) (1 : Int32)) 42 (ix ((0 : Int32) + 1)) (1 : Int32)) (u2 (u2 (u2 (u2 (u2 (u2 (u2 (u2 (u2 (u2 (u2 (u2 (u2 (u2 (u2 (fun _ _ => 0) 1 0 (0 : Int32)) 1 6 (1 : Int32)) 1 10 (1 : Int32)) 1 16 (1 : Int32)) 11 0 (1 : Int32)) 11 6 (1 : Int32)) 11 10 (1 : Int32)) 11 16 (1 : Int32)) 0 3 (0 : Int32)) 0 4 (1 : Int32)) 27 14 (1 : Int32)) 38 (ix (0 : Int32)) (1 : Int32)) 42 (ix (0 : Int32)) (1 : Int32)) 38 (ix ((0 : Int32) + 1)) (1 : Int32)) 42 (ix ((0 : Int32) + 1)) (1 : Int32)) := by
  have i0 : ix (0 : Int32) = 0 := by decide
  have i1 : ix ((0 : Int32) + 1) = 1 := by decide
  rw [i0, i1]
  refine ⟨0, fun _ => 0, fun _ => 0, fun _ => 0, fun _ => 0, (fun c _ => if c = 6 ∨ c = 10 then 1 else 0), 0, 1, fun _ _ => false, fun _ _ => false, fun _ => [], fun _ => [], fun _ => false, fun _ => [], fun _ _ => 0, fun _ => 0, ⟨⟨rfl, rfl, rfl, rfl⟩, ⟨li0, li0, li0, rfl, fun w h1 h2 => by omega⟩, fun w _ _ => rfl, ⟨li0, rfl, rfl, rfl, rfl, rfl, rfl, rfl, rfl, rfl, rfl, rfl, rfl, rfl, rfl, rfl, rfl⟩, fun j _ => ⟨b_0 j, rfl⟩, fun j _ => rfl, ⟨0, by decide, by decide, li0, li0, fun k a hk => (by cases hk)⟩, ⟨li0, fun k a hk => (by cases hk)⟩, ⟨by decide, li0, fun k a hk => (by cases hk)⟩, ⟨by decide, li0, fun k a hk => (by cases hk), fun e he => ⟨rfl, li0⟩, fun e he => (by cases he), List.Pairwise.nil⟩, fun j _ => b_0 j, ⟨by decide, rfl, li0, ⟨fun r => absurd r one0, fun r => absurd rfl r.1⟩⟩, ⟨li1, rfl, rfl, rfl, rfl, rfl, rfl, rfl, rfl, rfl, rfl, rfl, rfl, rfl, rfl, rfl, rfl⟩, fun j _ => ⟨b_0 j, rfl⟩, fun j _ => rfl, ⟨0, by decide, by decide, li0, li0, fun k a hk => (by cases hk)⟩, ⟨li0, fun k a hk => (by cases hk)⟩, ⟨by decide, li0, fun k a hk => (by cases hk)⟩, ⟨by decide, li0, fun k a hk => (by cases hk), fun e he => ⟨rfl, li0⟩, fun e he => (by cases he), List.Pairwise.nil⟩, fun j _ => b_0 j, ⟨by decide, rfl, li0, ⟨fun r => absurd r one0, fun r => absurd rfl r.1⟩⟩⟩, Inv_down ⟨by decide, fun w h1 h2 => by omega⟩ ⟨1, li1, by decide, by decide⟩ (fun w h1 h2 => by omega) (fun j _ => rfl) (fun j _ => rfl) rfl rfl rfl rfl (fun w _ _ => rfl) rfl rfl ?_ ⟨fun w w2 h1 h2 h3 => by omega, fun w h1 h2 => by omega, fun b _ => Or.inl rfl⟩⟩
  exact ⟨fun r => absurd r one0, fun r => absurd r one0, fun r => absurd rfl r.1, fun r => absurd rfl r, fun r => absurd rfl r, fun r => absurd rfl r.1, Or.inl rfl, Or.inl rfl⟩
