section LAW
variable {p : Program} {l : Launch} {e : Env} {s : State} {m : MethodId} {below : List Frame} {meth : Method} {c : Code} {D : va_G} {cI cZ : ClassId} {ad : Nat → Nat} {b L i t : Nat} {xs : Nat → Int32} {h : HH} {H : Heap} {locs : List Loc} {ls : Array Slot} {Q : State → Prop}
theorem ixs {k : Nat} (hk : k < 4) (hL : L ≤ 2048) (hi : i + 4 ≤ L) {x : Int32} (hx : x = nI k) : vp_in (nI i + x) L := by
  subst hx
  rw [nI_add]
  exact vp_in_nI (by omega) (by omega)
set_option maxHeartbeats 4000000 in
set_option maxRecDepth 100000 in
theorem law_0 (X : CallFix p m c code 4 s #[Value.ref b] TB R_W) (K : KK D cI cZ s) (hX : va_X b L xs s s.heap) (hbl : b < s.heap.size) (hL : L ≤ 2048) (hi : i + 4 ≤ L) (fz : Nat) (hz : 400 ≤ fz) (ht : t ≤ 600) (hJ : J2 t h h) (hw : Hw D cI cZ s.heap.size ad s shape h H locs) (hl : Lc ls 4 [some (.ref b), some (.ref (ad 0)), some (.ref (ad 27)), some (.int (nI i))]) (kk : ∀ (h2 : HH) (H2 : Heap) (locs2 : List Loc), J2 (t + 1) h2 h2 → Hw D cI cZ s.heap.size ad s shape h2 H2 locs2 → W p l e room_1 s m #[Value.ref b] below meth c H2 locs2 52 4204 Q (F0 m 592 ls [])) : W p l e room_1 s m #[Value.ref b] below meth c H locs 52 4204 Q (F0 m 124 ls []) := by
  obtain ⟨p1, p2, e1, hJ2⟩ := X_write fz hz ht hJ (xs (nI i + (1 : Int32)).toNatClampNeg) (xs (nI i + (2 : Int32)).toNatClampNeg) (xs (nI i + (3 : Int32)).toNatClampNeg)
  refine lv_aload_n X.1 X.2.1 d_W_law_124 rfl (hl.at 1 rfl) ?_
  refine lv_aload_n X.1 X.2.1 d_W_law_125 rfl (hl.at 0 rfl) ?_
  refine lv_iload_n X.1 X.2.1 d_W_law_126 rfl (hl.at 3 rfl) ?_
  refine lv_iconst (v := (1 : Int32)) X.1 X.2.1 d_W_law_127 (by decide) ?_
  refine lv_iadd X.1 X.2.1 d_W_law_128 ?_
  refine va_sld X.1 X.2.1 hX hbl (Nat.not_le.mpr hbl) hw.2.1 (ixs (by decide) hL hi li1) d_W_law_129 ?_
  refine lv_aload_n X.1 X.2.1 d_W_law_130 rfl (hl.at 0 rfl) ?_
  refine lv_iload_n X.1 X.2.1 d_W_law_131 rfl (hl.at 3 rfl) ?_
  refine lv_iconst (v := (2 : Int32)) X.1 X.2.1 d_W_law_132 (by decide) ?_
  refine lv_iadd X.1 X.2.1 d_W_law_133 ?_
  refine va_sld X.1 X.2.1 hX hbl (Nat.not_le.mpr hbl) hw.2.1 (ixs (by decide) hL hi li2) d_W_law_134 ?_
  refine lv_aload_n X.1 X.2.1 d_W_law_135 rfl (hl.at 0 rfl) ?_
  refine lv_iload_n X.1 X.2.1 d_W_law_136 rfl (hl.at 3 rfl) ?_
  refine lv_iconst (v := (3 : Int32)) X.1 X.2.1 d_W_law_137 (by decide) ?_
  refine lv_iadd X.1 X.2.1 d_W_law_138 ?_
  refine va_sld X.1 X.2.1 hX hbl (Nat.not_le.mpr hbl) hw.2.1 (ixs (by decide) hL hi li3) d_W_law_139 ?_
  refine r_callV (rest := []) (i := 0) X K hw hl.1 mf_W_13 rfl rfl rfl (c_V_write l D cI cZ s.heap.size ad fz (xs (nI i + (1 : Int32)).toNatClampNeg) (xs (nI i + (2 : Int32)).toNatClampNeg) (xs (nI i + (3 : Int32)).toNatClampNeg) h p1) (by decide) ⟨Nat.le_of_ble_eq_true rfl, Nat.le_of_ble_eq_true rfl⟩ rfl rfl (Nat.le_of_ble_eq_true rfl) d_W_law_140 (fun v h2 H locs q hw => ?_)
  obtain ⟨rfl, rfl⟩ := q
  refine lv_aload_n X.1 X.2.1 d_W_law_143 rfl (hl.at 2 rfl) ?_
  refine lv_aload_n X.1 X.2.1 d_W_law_144 rfl (hl.at 0 rfl) ?_
  refine lv_iload_n X.1 X.2.1 d_W_law_145 rfl (hl.at 3 rfl) ?_
  refine lv_iconst (v := (1 : Int32)) X.1 X.2.1 d_W_law_146 (by decide) ?_
  refine lv_iadd X.1 X.2.1 d_W_law_147 ?_
  refine va_sld X.1 X.2.1 hX hbl (Nat.not_le.mpr hbl) hw.2.1 (ixs (by decide) hL hi li1) d_W_law_148 ?_
  refine lv_aload_n X.1 X.2.1 d_W_law_149 rfl (hl.at 0 rfl) ?_
  refine lv_iload_n X.1 X.2.1 d_W_law_150 rfl (hl.at 3 rfl) ?_
  refine lv_iconst (v := (2 : Int32)) X.1 X.2.1 d_W_law_151 (by decide) ?_
  refine lv_iadd X.1 X.2.1 d_W_law_152 ?_
  refine va_sld X.1 X.2.1 hX hbl (Nat.not_le.mpr hbl) hw.2.1 (ixs (by decide) hL hi li2) d_W_law_153 ?_
  refine lv_aload_n X.1 X.2.1 d_W_law_154 rfl (hl.at 0 rfl) ?_
  refine lv_iload_n X.1 X.2.1 d_W_law_155 rfl (hl.at 3 rfl) ?_
  refine lv_iconst (v := (3 : Int32)) X.1 X.2.1 d_W_law_156 (by decide) ?_
  refine lv_iadd X.1 X.2.1 d_W_law_157 ?_
  refine va_sld X.1 X.2.1 hX hbl (Nat.not_le.mpr hbl) hw.2.1 (ixs (by decide) hL hi li3) d_W_law_158 ?_
  refine r_callV (rest := [.int (B_V_write fz (xs (nI i + (1 : Int32)).toNatClampNeg) (xs (nI i + (2 : Int32)).toNatClampNeg) (xs (nI i + (3 : Int32)).toNatClampNeg) h).1]) (i := 27) X K hw hl.1 mf_W_17 rfl rfl rfl (c_M_write l D cI cZ s.heap.size ad fz (xs (nI i + (1 : Int32)).toNatClampNeg) (xs (nI i + (2 : Int32)).toNatClampNeg) (xs (nI i + (3 : Int32)).toNatClampNeg) (B_V_write fz (xs (nI i + (1 : Int32)).toNatClampNeg) (xs (nI i + (2 : Int32)).toNatClampNeg) (xs (nI i + (3 : Int32)).toNatClampNeg) h).2 p2) (by decide) ⟨Nat.le_of_ble_eq_true rfl, Nat.le_of_ble_eq_true rfl⟩ rfl rfl (Nat.le_of_ble_eq_true rfl) d_W_law_159 (fun v h2 H locs q hw => ?_)
  obtain ⟨rfl, rfl⟩ := q
  refine lv_icmp_eq (tgt := 592) X.1 X.2.1 d_W_law_162 (by decide) (fun _ => ?_) (fun g => absurd e1 g)
  exact kk _ H locs hJ2 hw
set_option maxHeartbeats 4000000 in
set_option maxRecDepth 100000 in
theorem law_1 (X : CallFix p m c code 4 s #[Value.ref b] TB R_W) (K : KK D cI cZ s) (hX : va_X b L xs s s.heap) (hbl : b < s.heap.size) (hL : L ≤ 2048) (hi : i + 4 ≤ L) (fz : Nat) (hz : 400 ≤ fz) (ht : t ≤ 600) (hJ : J2 t h h) (hw : Hw D cI cZ s.heap.size ad s shape h H locs) (hl : Lc ls 4 [some (.ref b), some (.ref (ad 0)), some (.ref (ad 27)), some (.int (nI i))]) (kk : ∀ (h2 : HH) (H2 : Heap) (locs2 : List Loc), J2 (t + 1) h2 h2 → Hw D cI cZ s.heap.size ad s shape h2 H2 locs2 → W p l e room_1 s m #[Value.ref b] below meth c H2 locs2 52 4204 Q (F0 m 592 ls [])) : W p l e room_1 s m #[Value.ref b] below meth c H locs 52 4204 Q (F0 m 167 ls []) := by
  obtain ⟨p1, p2, e1, hJ2⟩ := X_barrier fz hz ht hJ (xs (nI i + (1 : Int32)).toNatClampNeg)
  refine lv_aload_n X.1 X.2.1 d_W_law_167 rfl (hl.at 1 rfl) ?_
  refine lv_aload_n X.1 X.2.1 d_W_law_168 rfl (hl.at 0 rfl) ?_
  refine lv_iload_n X.1 X.2.1 d_W_law_169 rfl (hl.at 3 rfl) ?_
  refine lv_iconst (v := (1 : Int32)) X.1 X.2.1 d_W_law_170 (by decide) ?_
  refine lv_iadd X.1 X.2.1 d_W_law_171 ?_
  refine va_sld X.1 X.2.1 hX hbl (Nat.not_le.mpr hbl) hw.2.1 (ixs (by decide) hL hi li1) d_W_law_172 ?_
  refine r_callV (rest := []) (i := 0) X K hw hl.1 mf_W_18 rfl rfl rfl (c_V_barrier l D cI cZ s.heap.size ad fz (xs (nI i + (1 : Int32)).toNatClampNeg) h p1) (by decide) ⟨Nat.le_of_ble_eq_true rfl, Nat.le_of_ble_eq_true rfl⟩ rfl rfl (Nat.le_of_ble_eq_true rfl) d_W_law_173 (fun v h2 H locs q hw => ?_)
  obtain ⟨rfl, rfl⟩ := q
  refine lv_aload_n X.1 X.2.1 d_W_law_176 rfl (hl.at 2 rfl) ?_
  refine lv_aload_n X.1 X.2.1 d_W_law_177 rfl (hl.at 0 rfl) ?_
  refine lv_iload_n X.1 X.2.1 d_W_law_178 rfl (hl.at 3 rfl) ?_
  refine lv_iconst (v := (1 : Int32)) X.1 X.2.1 d_W_law_179 (by decide) ?_
  refine lv_iadd X.1 X.2.1 d_W_law_180 ?_
  refine va_sld X.1 X.2.1 hX hbl (Nat.not_le.mpr hbl) hw.2.1 (ixs (by decide) hL hi li1) d_W_law_181 ?_
  refine r_callV (rest := [.int (B_V_barrier fz (xs (nI i + (1 : Int32)).toNatClampNeg) h).1]) (i := 27) X K hw hl.1 mf_W_22 rfl rfl rfl (c_M_barrier l D cI cZ s.heap.size ad fz (xs (nI i + (1 : Int32)).toNatClampNeg) (B_V_barrier fz (xs (nI i + (1 : Int32)).toNatClampNeg) h).2 p2) (by decide) ⟨Nat.le_of_ble_eq_true rfl, Nat.le_of_ble_eq_true rfl⟩ rfl rfl (Nat.le_of_ble_eq_true rfl) d_W_law_182 (fun v h2 H locs q hw => ?_)
  obtain ⟨rfl, rfl⟩ := q
  refine lv_icmp_eq (tgt := 592) X.1 X.2.1 d_W_law_185 (by decide) (fun _ => ?_) (fun g => absurd e1 g)
  exact kk _ H locs hJ2 hw
set_option maxHeartbeats 4000000 in
set_option maxRecDepth 100000 in
theorem law_2 (X : CallFix p m c code 4 s #[Value.ref b] TB R_W) (K : KK D cI cZ s) (hX : va_X b L xs s s.heap) (hbl : b < s.heap.size) (hL : L ≤ 2048) (hi : i + 4 ≤ L) (fz : Nat) (hz : 400 ≤ fz) (ht : t ≤ 600) (hJ : J2 t h h) (hw : Hw D cI cZ s.heap.size ad s shape h H locs) (hl : Lc ls 4 [some (.ref b), some (.ref (ad 0)), some (.ref (ad 27)), some (.int (nI i))]) (kk : ∀ (h2 : HH) (H2 : Heap) (locs2 : List Loc), J2 (t + 1) h2 h2 → Hw D cI cZ s.heap.size ad s shape h2 H2 locs2 → W p l e room_1 s m #[Value.ref b] below meth c H2 locs2 52 4204 Q (F0 m 592 ls [])) : W p l e room_1 s m #[Value.ref b] below meth c H locs 52 4204 Q (F0 m 190 ls []) := by
  obtain ⟨p1, p2, e1, hJ2⟩ := X_deliver fz hz ht hJ (xs (nI i + (1 : Int32)).toNatClampNeg)
  refine lv_aload_n X.1 X.2.1 d_W_law_190 rfl (hl.at 1 rfl) ?_
  refine lv_aload_n X.1 X.2.1 d_W_law_191 rfl (hl.at 0 rfl) ?_
  refine lv_iload_n X.1 X.2.1 d_W_law_192 rfl (hl.at 3 rfl) ?_
  refine lv_iconst (v := (1 : Int32)) X.1 X.2.1 d_W_law_193 (by decide) ?_
  refine lv_iadd X.1 X.2.1 d_W_law_194 ?_
  refine va_sld X.1 X.2.1 hX hbl (Nat.not_le.mpr hbl) hw.2.1 (ixs (by decide) hL hi li1) d_W_law_195 ?_
  refine r_callV (rest := []) (i := 0) X K hw hl.1 mf_W_23 rfl rfl rfl (c_V_deliver l D cI cZ s.heap.size ad fz (xs (nI i + (1 : Int32)).toNatClampNeg) h p1) (by decide) ⟨Nat.le_of_ble_eq_true rfl, Nat.le_of_ble_eq_true rfl⟩ rfl rfl (Nat.le_of_ble_eq_true rfl) d_W_law_196 (fun v h2 H locs q hw => ?_)
  obtain ⟨rfl, rfl⟩ := q
  refine lv_aload_n X.1 X.2.1 d_W_law_199 rfl (hl.at 2 rfl) ?_
  refine lv_aload_n X.1 X.2.1 d_W_law_200 rfl (hl.at 0 rfl) ?_
  refine lv_iload_n X.1 X.2.1 d_W_law_201 rfl (hl.at 3 rfl) ?_
  refine lv_iconst (v := (1 : Int32)) X.1 X.2.1 d_W_law_202 (by decide) ?_
  refine lv_iadd X.1 X.2.1 d_W_law_203 ?_
  refine va_sld X.1 X.2.1 hX hbl (Nat.not_le.mpr hbl) hw.2.1 (ixs (by decide) hL hi li1) d_W_law_204 ?_
  refine r_callV (rest := [.int (B_V_deliver fz (xs (nI i + (1 : Int32)).toNatClampNeg) h).1]) (i := 27) X K hw hl.1 mf_W_27 rfl rfl rfl (c_M_deliver l D cI cZ s.heap.size ad fz (xs (nI i + (1 : Int32)).toNatClampNeg) (B_V_deliver fz (xs (nI i + (1 : Int32)).toNatClampNeg) h).2 p2) (by decide) ⟨Nat.le_of_ble_eq_true rfl, Nat.le_of_ble_eq_true rfl⟩ rfl rfl (Nat.le_of_ble_eq_true rfl) d_W_law_205 (fun v h2 H locs q hw => ?_)
  obtain ⟨rfl, rfl⟩ := q
  refine lv_icmp_eq (tgt := 592) X.1 X.2.1 d_W_law_208 (by decide) (fun _ => ?_) (fun g => absurd e1 g)
  exact kk _ H locs hJ2 hw
set_option maxHeartbeats 4000000 in
set_option maxRecDepth 100000 in
theorem law_3 (X : CallFix p m c code 4 s #[Value.ref b] TB R_W) (K : KK D cI cZ s) (hX : va_X b L xs s s.heap) (hbl : b < s.heap.size) (hL : L ≤ 2048) (hi : i + 4 ≤ L) (fz : Nat) (hz : 400 ≤ fz) (ht : t ≤ 600) (hJ : J2 t h h) (hw : Hw D cI cZ s.heap.size ad s shape h H locs) (hl : Lc ls 4 [some (.ref b), some (.ref (ad 0)), some (.ref (ad 27)), some (.int (nI i))]) (kk : ∀ (h2 : HH) (H2 : Heap) (locs2 : List Loc), J2 (t + 1) h2 h2 → Hw D cI cZ s.heap.size ad s shape h2 H2 locs2 → W p l e room_1 s m #[Value.ref b] below meth c H2 locs2 52 4204 Q (F0 m 592 ls [])) : W p l e room_1 s m #[Value.ref b] below meth c H locs 52 4204 Q (F0 m 213 ls []) := by
  obtain ⟨p1, p2, e1, hJ2⟩ := X_store fz hz ht hJ (xs (nI i + (1 : Int32)).toNatClampNeg) (xs (nI i + (2 : Int32)).toNatClampNeg)
  refine lv_aload_n X.1 X.2.1 d_W_law_213 rfl (hl.at 1 rfl) ?_
  refine lv_aload_n X.1 X.2.1 d_W_law_214 rfl (hl.at 0 rfl) ?_
  refine lv_iload_n X.1 X.2.1 d_W_law_215 rfl (hl.at 3 rfl) ?_
  refine lv_iconst (v := (1 : Int32)) X.1 X.2.1 d_W_law_216 (by decide) ?_
  refine lv_iadd X.1 X.2.1 d_W_law_217 ?_
  refine va_sld X.1 X.2.1 hX hbl (Nat.not_le.mpr hbl) hw.2.1 (ixs (by decide) hL hi li1) d_W_law_218 ?_
  refine lv_aload_n X.1 X.2.1 d_W_law_219 rfl (hl.at 0 rfl) ?_
  refine lv_iload_n X.1 X.2.1 d_W_law_220 rfl (hl.at 3 rfl) ?_
  refine lv_iconst (v := (2 : Int32)) X.1 X.2.1 d_W_law_221 (by decide) ?_
  refine lv_iadd X.1 X.2.1 d_W_law_222 ?_
  refine va_sld X.1 X.2.1 hX hbl (Nat.not_le.mpr hbl) hw.2.1 (ixs (by decide) hL hi li2) d_W_law_223 ?_
  refine r_callV (rest := []) (i := 0) X K hw hl.1 mf_W_28 rfl rfl rfl (c_V_store l D cI cZ s.heap.size ad fz (xs (nI i + (1 : Int32)).toNatClampNeg) (xs (nI i + (2 : Int32)).toNatClampNeg) h p1) (by decide) ⟨Nat.le_of_ble_eq_true rfl, Nat.le_of_ble_eq_true rfl⟩ rfl rfl (Nat.le_of_ble_eq_true rfl) d_W_law_224 (fun v h2 H locs q hw => ?_)
  obtain ⟨rfl, rfl⟩ := q
  refine lv_aload_n X.1 X.2.1 d_W_law_227 rfl (hl.at 2 rfl) ?_
  refine lv_aload_n X.1 X.2.1 d_W_law_228 rfl (hl.at 0 rfl) ?_
  refine lv_iload_n X.1 X.2.1 d_W_law_229 rfl (hl.at 3 rfl) ?_
  refine lv_iconst (v := (1 : Int32)) X.1 X.2.1 d_W_law_230 (by decide) ?_
  refine lv_iadd X.1 X.2.1 d_W_law_231 ?_
  refine va_sld X.1 X.2.1 hX hbl (Nat.not_le.mpr hbl) hw.2.1 (ixs (by decide) hL hi li1) d_W_law_232 ?_
  refine lv_aload_n X.1 X.2.1 d_W_law_233 rfl (hl.at 0 rfl) ?_
  refine lv_iload_n X.1 X.2.1 d_W_law_234 rfl (hl.at 3 rfl) ?_
  refine lv_iconst (v := (2 : Int32)) X.1 X.2.1 d_W_law_235 (by decide) ?_
  refine lv_iadd X.1 X.2.1 d_W_law_236 ?_
  refine va_sld X.1 X.2.1 hX hbl (Nat.not_le.mpr hbl) hw.2.1 (ixs (by decide) hL hi li2) d_W_law_237 ?_
  refine r_callV (rest := [.int (B_V_store fz (xs (nI i + (1 : Int32)).toNatClampNeg) (xs (nI i + (2 : Int32)).toNatClampNeg) h).1]) (i := 27) X K hw hl.1 mf_W_32 rfl rfl rfl (c_M_store l D cI cZ s.heap.size ad fz (xs (nI i + (1 : Int32)).toNatClampNeg) (xs (nI i + (2 : Int32)).toNatClampNeg) (B_V_store fz (xs (nI i + (1 : Int32)).toNatClampNeg) (xs (nI i + (2 : Int32)).toNatClampNeg) h).2 p2) (by decide) ⟨Nat.le_of_ble_eq_true rfl, Nat.le_of_ble_eq_true rfl⟩ rfl rfl (Nat.le_of_ble_eq_true rfl) d_W_law_238 (fun v h2 H locs q hw => ?_)
  obtain ⟨rfl, rfl⟩ := q
  refine lv_icmp_eq (tgt := 592) X.1 X.2.1 d_W_law_241 (by decide) (fun _ => ?_) (fun g => absurd e1 g)
  exact kk _ H locs hJ2 hw
set_option maxHeartbeats 4000000 in
set_option maxRecDepth 100000 in
theorem law_4 (X : CallFix p m c code 4 s #[Value.ref b] TB R_W) (K : KK D cI cZ s) (hX : va_X b L xs s s.heap) (hbl : b < s.heap.size) (hL : L ≤ 2048) (hi : i + 4 ≤ L) (fz : Nat) (hz : 400 ≤ fz) (ht : t ≤ 600) (hJ : J2 t h h) (hw : Hw D cI cZ s.heap.size ad s shape h H locs) (hl : Lc ls 4 [some (.ref b), some (.ref (ad 0)), some (.ref (ad 27)), some (.int (nI i))]) (kk : ∀ (h2 : HH) (H2 : Heap) (locs2 : List Loc), J2 (t + 1) h2 h2 → Hw D cI cZ s.heap.size ad s shape h2 H2 locs2 → W p l e room_1 s m #[Value.ref b] below meth c H2 locs2 52 4204 Q (F0 m 592 ls [])) : W p l e room_1 s m #[Value.ref b] below meth c H locs 52 4204 Q (F0 m 246 ls []) := by
  obtain ⟨p1, p2, e1, hJ2⟩ := X_copy fz hz ht hJ (xs (nI i + (1 : Int32)).toNatClampNeg)
  refine lv_aload_n X.1 X.2.1 d_W_law_246 rfl (hl.at 1 rfl) ?_
  refine lv_aload_n X.1 X.2.1 d_W_law_247 rfl (hl.at 0 rfl) ?_
  refine lv_iload_n X.1 X.2.1 d_W_law_248 rfl (hl.at 3 rfl) ?_
  refine lv_iconst (v := (1 : Int32)) X.1 X.2.1 d_W_law_249 (by decide) ?_
  refine lv_iadd X.1 X.2.1 d_W_law_250 ?_
  refine va_sld X.1 X.2.1 hX hbl (Nat.not_le.mpr hbl) hw.2.1 (ixs (by decide) hL hi li1) d_W_law_251 ?_
  refine r_callV (rest := []) (i := 0) X K hw hl.1 mf_W_33 rfl rfl rfl (c_V_copy l D cI cZ s.heap.size ad fz (xs (nI i + (1 : Int32)).toNatClampNeg) h p1) (by decide) ⟨Nat.le_of_ble_eq_true rfl, Nat.le_of_ble_eq_true rfl⟩ rfl rfl (Nat.le_of_ble_eq_true rfl) d_W_law_252 (fun v h2 H locs q hw => ?_)
  obtain ⟨rfl, rfl⟩ := q
  refine lv_aload_n X.1 X.2.1 d_W_law_255 rfl (hl.at 2 rfl) ?_
  refine lv_aload_n X.1 X.2.1 d_W_law_256 rfl (hl.at 0 rfl) ?_
  refine lv_iload_n X.1 X.2.1 d_W_law_257 rfl (hl.at 3 rfl) ?_
  refine lv_iconst (v := (1 : Int32)) X.1 X.2.1 d_W_law_258 (by decide) ?_
  refine lv_iadd X.1 X.2.1 d_W_law_259 ?_
  refine va_sld X.1 X.2.1 hX hbl (Nat.not_le.mpr hbl) hw.2.1 (ixs (by decide) hL hi li1) d_W_law_260 ?_
  refine r_callV (rest := [.int (B_V_copy fz (xs (nI i + (1 : Int32)).toNatClampNeg) h).1]) (i := 27) X K hw hl.1 mf_W_36 rfl rfl rfl (c_M_copy l D cI cZ s.heap.size ad fz (xs (nI i + (1 : Int32)).toNatClampNeg) (B_V_copy fz (xs (nI i + (1 : Int32)).toNatClampNeg) h).2 p2) (by decide) ⟨Nat.le_of_ble_eq_true rfl, Nat.le_of_ble_eq_true rfl⟩ rfl rfl (Nat.le_of_ble_eq_true rfl) d_W_law_261 (fun v h2 H locs q hw => ?_)
  obtain ⟨rfl, rfl⟩ := q
  refine lv_icmp_eq (tgt := 592) X.1 X.2.1 d_W_law_264 (by decide) (fun _ => ?_) (fun g => absurd e1 g)
  exact kk _ H locs hJ2 hw
set_option maxHeartbeats 4000000 in
set_option maxRecDepth 100000 in
theorem law_5 (X : CallFix p m c code 4 s #[Value.ref b] TB R_W) (K : KK D cI cZ s) (hX : va_X b L xs s s.heap) (hbl : b < s.heap.size) (hL : L ≤ 2048) (hi : i + 4 ≤ L) (fz : Nat) (hz : 400 ≤ fz) (ht : t ≤ 600) (hJ : J2 t h h) (hw : Hw D cI cZ s.heap.size ad s shape h H locs) (hl : Lc ls 4 [some (.ref b), some (.ref (ad 0)), some (.ref (ad 27)), some (.int (nI i))]) (kk : ∀ (h2 : HH) (H2 : Heap) (locs2 : List Loc), J2 (t + 1) h2 h2 → Hw D cI cZ s.heap.size ad s shape h2 H2 locs2 → W p l e room_1 s m #[Value.ref b] below meth c H2 locs2 52 4204 Q (F0 m 592 ls [])) : W p l e room_1 s m #[Value.ref b] below meth c H locs 52 4204 Q (F0 m 269 ls []) := by
  obtain ⟨p1, p2, e1, hJ2⟩ := X_connect fz hz ht hJ
  refine lv_aload_n X.1 X.2.1 d_W_law_269 rfl (hl.at 1 rfl) ?_
  refine r_callV (rest := []) (i := 0) X K hw hl.1 mf_W_37 rfl rfl rfl (c_V_connect l D cI cZ s.heap.size ad fz h p1) (by decide) ⟨Nat.le_of_ble_eq_true rfl, Nat.le_of_ble_eq_true rfl⟩ rfl rfl (Nat.le_of_ble_eq_true rfl) d_W_law_270 (fun v h2 H locs q hw => ?_)
  obtain ⟨rfl, rfl⟩ := q
  refine lv_aload_n X.1 X.2.1 d_W_law_273 rfl (hl.at 2 rfl) ?_
  refine r_callV (rest := [.int (B_V_connect fz h).1]) (i := 27) X K hw hl.1 mf_W_41 rfl rfl rfl (c_M_connect l D cI cZ s.heap.size ad fz (B_V_connect fz h).2 p2) (by decide) ⟨Nat.le_of_ble_eq_true rfl, Nat.le_of_ble_eq_true rfl⟩ rfl rfl (Nat.le_of_ble_eq_true rfl) d_W_law_274 (fun v h2 H locs q hw => ?_)
  obtain ⟨rfl, rfl⟩ := q
  refine lv_icmp_eq (tgt := 592) X.1 X.2.1 d_W_law_277 (by decide) (fun _ => ?_) (fun g => absurd e1 g)
  exact kk _ H locs hJ2 hw
set_option maxHeartbeats 4000000 in
set_option maxRecDepth 100000 in
theorem law_6 (X : CallFix p m c code 4 s #[Value.ref b] TB R_W) (K : KK D cI cZ s) (hX : va_X b L xs s s.heap) (hbl : b < s.heap.size) (hL : L ≤ 2048) (hi : i + 4 ≤ L) (fz : Nat) (hz : 400 ≤ fz) (ht : t ≤ 600) (hJ : J2 t h h) (hw : Hw D cI cZ s.heap.size ad s shape h H locs) (hl : Lc ls 4 [some (.ref b), some (.ref (ad 0)), some (.ref (ad 27)), some (.int (nI i))]) (kk : ∀ (h2 : HH) (H2 : Heap) (locs2 : List Loc), J2 (t + 1) h2 h2 → Hw D cI cZ s.heap.size ad s shape h2 H2 locs2 → W p l e room_1 s m #[Value.ref b] below meth c H2 locs2 52 4204 Q (F0 m 592 ls [])) : W p l e room_1 s m #[Value.ref b] below meth c H locs 52 4204 Q (F0 m 282 ls []) := by
  obtain ⟨p1, p2, e1, hJ2⟩ := X_cut fz hz ht hJ
  refine lv_aload_n X.1 X.2.1 d_W_law_282 rfl (hl.at 1 rfl) ?_
  refine r_callV (rest := []) (i := 0) X K hw hl.1 mf_W_42 rfl rfl rfl (c_V_cut l D cI cZ s.heap.size ad fz h p1) (by decide) ⟨Nat.le_of_ble_eq_true rfl, Nat.le_of_ble_eq_true rfl⟩ rfl rfl (Nat.le_of_ble_eq_true rfl) d_W_law_283 (fun v h2 H locs q hw => ?_)
  obtain ⟨rfl, rfl⟩ := q
  refine lv_aload_n X.1 X.2.1 d_W_law_286 rfl (hl.at 2 rfl) ?_
  refine r_callV (rest := [.int (B_V_cut fz h).1]) (i := 27) X K hw hl.1 mf_W_46 rfl rfl rfl (c_M_cut l D cI cZ s.heap.size ad fz (B_V_cut fz h).2 p2) (by decide) ⟨Nat.le_of_ble_eq_true rfl, Nat.le_of_ble_eq_true rfl⟩ rfl rfl (Nat.le_of_ble_eq_true rfl) d_W_law_287 (fun v h2 H locs q hw => ?_)
  obtain ⟨rfl, rfl⟩ := q
  refine lv_icmp_eq (tgt := 592) X.1 X.2.1 d_W_law_290 (by decide) (fun _ => ?_) (fun g => absurd e1 g)
  exact kk _ H locs hJ2 hw
set_option maxHeartbeats 4000000 in
set_option maxRecDepth 100000 in
theorem law_7 (X : CallFix p m c code 4 s #[Value.ref b] TB R_W) (K : KK D cI cZ s) (hX : va_X b L xs s s.heap) (hbl : b < s.heap.size) (hL : L ≤ 2048) (hi : i + 4 ≤ L) (fz : Nat) (hz : 400 ≤ fz) (ht : t ≤ 600) (hJ : J2 t h h) (hw : Hw D cI cZ s.heap.size ad s shape h H locs) (hl : Lc ls 4 [some (.ref b), some (.ref (ad 0)), some (.ref (ad 27)), some (.int (nI i))]) (kk : ∀ (h2 : HH) (H2 : Heap) (locs2 : List Loc), J2 (t + 1) h2 h2 → Hw D cI cZ s.heap.size ad s shape h2 H2 locs2 → W p l e room_1 s m #[Value.ref b] below meth c H2 locs2 52 4204 Q (F0 m 592 ls [])) : W p l e room_1 s m #[Value.ref b] below meth c H locs 52 4204 Q (F0 m 295 ls []) := by
  obtain ⟨p1, p2, e1, hJ2⟩ := X_crash fz hz ht hJ (xs (nI i + (1 : Int32)).toNatClampNeg)
  refine lv_aload_n X.1 X.2.1 d_W_law_295 rfl (hl.at 1 rfl) ?_
  refine lv_aload_n X.1 X.2.1 d_W_law_296 rfl (hl.at 0 rfl) ?_
  refine lv_iload_n X.1 X.2.1 d_W_law_297 rfl (hl.at 3 rfl) ?_
  refine lv_iconst (v := (1 : Int32)) X.1 X.2.1 d_W_law_298 (by decide) ?_
  refine lv_iadd X.1 X.2.1 d_W_law_299 ?_
  refine va_sld X.1 X.2.1 hX hbl (Nat.not_le.mpr hbl) hw.2.1 (ixs (by decide) hL hi li1) d_W_law_300 ?_
  refine r_callV (rest := []) (i := 0) X K hw hl.1 mf_W_47 rfl rfl rfl (c_V_crash l D cI cZ s.heap.size ad fz (xs (nI i + (1 : Int32)).toNatClampNeg) h p1) (by decide) ⟨Nat.le_of_ble_eq_true rfl, Nat.le_of_ble_eq_true rfl⟩ rfl rfl (Nat.le_of_ble_eq_true rfl) d_W_law_301 (fun v h2 H locs q hw => ?_)
  obtain ⟨rfl, rfl⟩ := q
  refine lv_aload_n X.1 X.2.1 d_W_law_304 rfl (hl.at 2 rfl) ?_
  refine lv_aload_n X.1 X.2.1 d_W_law_305 rfl (hl.at 0 rfl) ?_
  refine lv_iload_n X.1 X.2.1 d_W_law_306 rfl (hl.at 3 rfl) ?_
  refine lv_iconst (v := (1 : Int32)) X.1 X.2.1 d_W_law_307 (by decide) ?_
  refine lv_iadd X.1 X.2.1 d_W_law_308 ?_
  refine va_sld X.1 X.2.1 hX hbl (Nat.not_le.mpr hbl) hw.2.1 (ixs (by decide) hL hi li1) d_W_law_309 ?_
  refine r_callV (rest := [.int (B_V_crash fz (xs (nI i + (1 : Int32)).toNatClampNeg) h).1]) (i := 27) X K hw hl.1 mf_W_50 rfl rfl rfl (c_M_crash l D cI cZ s.heap.size ad fz (xs (nI i + (1 : Int32)).toNatClampNeg) (B_V_crash fz (xs (nI i + (1 : Int32)).toNatClampNeg) h).2 p2) (by decide) ⟨Nat.le_of_ble_eq_true rfl, Nat.le_of_ble_eq_true rfl⟩ rfl rfl (Nat.le_of_ble_eq_true rfl) d_W_law_310 (fun v h2 H locs q hw => ?_)
  obtain ⟨rfl, rfl⟩ := q
  refine lv_icmp_eq (tgt := 592) X.1 X.2.1 d_W_law_313 (by decide) (fun _ => ?_) (fun g => absurd e1 g)
  exact kk _ H locs hJ2 hw
set_option maxHeartbeats 4000000 in
set_option maxRecDepth 100000 in
theorem law_8 (X : CallFix p m c code 4 s #[Value.ref b] TB R_W) (K : KK D cI cZ s) (hX : va_X b L xs s s.heap) (hbl : b < s.heap.size) (hL : L ≤ 2048) (hi : i + 4 ≤ L) (fz : Nat) (hz : 400 ≤ fz) (ht : t ≤ 600) (hJ : J2 t h h) (hw : Hw D cI cZ s.heap.size ad s shape h H locs) (hl : Lc ls 4 [some (.ref b), some (.ref (ad 0)), some (.ref (ad 27)), some (.int (nI i))]) (kk : ∀ (h2 : HH) (H2 : Heap) (locs2 : List Loc), J2 (t + 1) h2 h2 → Hw D cI cZ s.heap.size ad s shape h2 H2 locs2 → W p l e room_1 s m #[Value.ref b] below meth c H2 locs2 52 4204 Q (F0 m 592 ls [])) : W p l e room_1 s m #[Value.ref b] below meth c H locs 52 4204 Q (F0 m 318 ls []) := by
  obtain ⟨p1, p2, e1, hJ2⟩ := X_restart fz hz ht hJ (xs (nI i + (1 : Int32)).toNatClampNeg)
  refine lv_aload_n X.1 X.2.1 d_W_law_318 rfl (hl.at 1 rfl) ?_
  refine lv_aload_n X.1 X.2.1 d_W_law_319 rfl (hl.at 0 rfl) ?_
  refine lv_iload_n X.1 X.2.1 d_W_law_320 rfl (hl.at 3 rfl) ?_
  refine lv_iconst (v := (1 : Int32)) X.1 X.2.1 d_W_law_321 (by decide) ?_
  refine lv_iadd X.1 X.2.1 d_W_law_322 ?_
  refine va_sld X.1 X.2.1 hX hbl (Nat.not_le.mpr hbl) hw.2.1 (ixs (by decide) hL hi li1) d_W_law_323 ?_
  refine r_callV (rest := []) (i := 0) X K hw hl.1 mf_W_51 rfl rfl rfl (c_V_restart l D cI cZ s.heap.size ad fz (xs (nI i + (1 : Int32)).toNatClampNeg) h p1) (by decide) ⟨Nat.le_of_ble_eq_true rfl, Nat.le_of_ble_eq_true rfl⟩ rfl rfl (Nat.le_of_ble_eq_true rfl) d_W_law_324 (fun v h2 H locs q hw => ?_)
  obtain ⟨rfl, rfl⟩ := q
  refine lv_aload_n X.1 X.2.1 d_W_law_327 rfl (hl.at 2 rfl) ?_
  refine lv_aload_n X.1 X.2.1 d_W_law_328 rfl (hl.at 0 rfl) ?_
  refine lv_iload_n X.1 X.2.1 d_W_law_329 rfl (hl.at 3 rfl) ?_
  refine lv_iconst (v := (1 : Int32)) X.1 X.2.1 d_W_law_330 (by decide) ?_
  refine lv_iadd X.1 X.2.1 d_W_law_331 ?_
  refine va_sld X.1 X.2.1 hX hbl (Nat.not_le.mpr hbl) hw.2.1 (ixs (by decide) hL hi li1) d_W_law_332 ?_
  refine r_callV (rest := [.int (B_V_restart fz (xs (nI i + (1 : Int32)).toNatClampNeg) h).1]) (i := 27) X K hw hl.1 mf_W_54 rfl rfl rfl (c_M_restart l D cI cZ s.heap.size ad fz (xs (nI i + (1 : Int32)).toNatClampNeg) (B_V_restart fz (xs (nI i + (1 : Int32)).toNatClampNeg) h).2 p2) (by decide) ⟨Nat.le_of_ble_eq_true rfl, Nat.le_of_ble_eq_true rfl⟩ rfl rfl (Nat.le_of_ble_eq_true rfl) d_W_law_333 (fun v h2 H locs q hw => ?_)
  obtain ⟨rfl, rfl⟩ := q
  refine lv_icmp_eq (tgt := 592) X.1 X.2.1 d_W_law_336 (by decide) (fun _ => ?_) (fun g => absurd e1 g)
  exact kk _ H locs hJ2 hw
set_option maxHeartbeats 4000000 in
set_option maxRecDepth 100000 in
theorem law_9 (X : CallFix p m c code 4 s #[Value.ref b] TB R_W) (K : KK D cI cZ s) (hX : va_X b L xs s s.heap) (hbl : b < s.heap.size) (hL : L ≤ 2048) (hi : i + 4 ≤ L) (fz : Nat) (hz : 400 ≤ fz) (ht : t ≤ 600) (hJ : J2 t h h) (hw : Hw D cI cZ s.heap.size ad s shape h H locs) (hl : Lc ls 4 [some (.ref b), some (.ref (ad 0)), some (.ref (ad 27)), some (.int (nI i))]) (kk : ∀ (h2 : HH) (H2 : Heap) (locs2 : List Loc), J2 (t + 1) h2 h2 → Hw D cI cZ s.heap.size ad s shape h2 H2 locs2 → W p l e room_1 s m #[Value.ref b] below meth c H2 locs2 52 4204 Q (F0 m 592 ls [])) : W p l e room_1 s m #[Value.ref b] below meth c H locs 52 4204 Q (F0 m 341 ls []) := by
  obtain ⟨p1, p2, e1, hJ2⟩ := X_promote fz hz ht hJ (xs (nI i + (1 : Int32)).toNatClampNeg)
  refine lv_aload_n X.1 X.2.1 d_W_law_341 rfl (hl.at 1 rfl) ?_
  refine lv_aload_n X.1 X.2.1 d_W_law_342 rfl (hl.at 0 rfl) ?_
  refine lv_iload_n X.1 X.2.1 d_W_law_343 rfl (hl.at 3 rfl) ?_
  refine lv_iconst (v := (1 : Int32)) X.1 X.2.1 d_W_law_344 (by decide) ?_
  refine lv_iadd X.1 X.2.1 d_W_law_345 ?_
  refine va_sld X.1 X.2.1 hX hbl (Nat.not_le.mpr hbl) hw.2.1 (ixs (by decide) hL hi li1) d_W_law_346 ?_
  refine r_callV (rest := []) (i := 0) X K hw hl.1 mf_W_55 rfl rfl rfl (c_V_promote l D cI cZ s.heap.size ad fz (xs (nI i + (1 : Int32)).toNatClampNeg) h p1) (by decide) ⟨Nat.le_of_ble_eq_true rfl, Nat.le_of_ble_eq_true rfl⟩ rfl rfl (Nat.le_of_ble_eq_true rfl) d_W_law_347 (fun v h2 H locs q hw => ?_)
  obtain ⟨rfl, rfl⟩ := q
  refine lv_aload_n X.1 X.2.1 d_W_law_350 rfl (hl.at 2 rfl) ?_
  refine lv_aload_n X.1 X.2.1 d_W_law_351 rfl (hl.at 0 rfl) ?_
  refine lv_iload_n X.1 X.2.1 d_W_law_352 rfl (hl.at 3 rfl) ?_
  refine lv_iconst (v := (1 : Int32)) X.1 X.2.1 d_W_law_353 (by decide) ?_
  refine lv_iadd X.1 X.2.1 d_W_law_354 ?_
  refine va_sld X.1 X.2.1 hX hbl (Nat.not_le.mpr hbl) hw.2.1 (ixs (by decide) hL hi li1) d_W_law_355 ?_
  refine r_callV (rest := [.int (B_V_promote fz (xs (nI i + (1 : Int32)).toNatClampNeg) h).1]) (i := 27) X K hw hl.1 mf_W_58 rfl rfl rfl (c_M_promote l D cI cZ s.heap.size ad fz (xs (nI i + (1 : Int32)).toNatClampNeg) (B_V_promote fz (xs (nI i + (1 : Int32)).toNatClampNeg) h).2 p2) (by decide) ⟨Nat.le_of_ble_eq_true rfl, Nat.le_of_ble_eq_true rfl⟩ rfl rfl (Nat.le_of_ble_eq_true rfl) d_W_law_356 (fun v h2 H locs q hw => ?_)
  obtain ⟨rfl, rfl⟩ := q
  refine lv_icmp_eq (tgt := 592) X.1 X.2.1 d_W_law_359 (by decide) (fun _ => ?_) (fun g => absurd e1 g)
  exact kk _ H locs hJ2 hw
set_option maxHeartbeats 4000000 in
set_option maxRecDepth 100000 in
theorem law_10 (X : CallFix p m c code 4 s #[Value.ref b] TB R_W) (K : KK D cI cZ s) (hX : va_X b L xs s s.heap) (hbl : b < s.heap.size) (hL : L ≤ 2048) (hi : i + 4 ≤ L) (fz : Nat) (hz : 400 ≤ fz) (ht : t ≤ 600) (hJ : J2 t h h) (hw : Hw D cI cZ s.heap.size ad s shape h H locs) (hl : Lc ls 4 [some (.ref b), some (.ref (ad 0)), some (.ref (ad 27)), some (.int (nI i))]) (kk : ∀ (h2 : HH) (H2 : Heap) (locs2 : List Loc), J2 (t + 1) h2 h2 → Hw D cI cZ s.heap.size ad s shape h2 H2 locs2 → W p l e room_1 s m #[Value.ref b] below meth c H2 locs2 52 4204 Q (F0 m 592 ls [])) : W p l e room_1 s m #[Value.ref b] below meth c H locs 52 4204 Q (F0 m 364 ls []) := by
  obtain ⟨p1, p2, e1, hJ2⟩ := X_demote fz hz ht hJ (xs (nI i + (1 : Int32)).toNatClampNeg)
  refine lv_aload_n X.1 X.2.1 d_W_law_364 rfl (hl.at 1 rfl) ?_
  refine lv_aload_n X.1 X.2.1 d_W_law_365 rfl (hl.at 0 rfl) ?_
  refine lv_iload_n X.1 X.2.1 d_W_law_366 rfl (hl.at 3 rfl) ?_
  refine lv_iconst (v := (1 : Int32)) X.1 X.2.1 d_W_law_367 (by decide) ?_
  refine lv_iadd X.1 X.2.1 d_W_law_368 ?_
  refine va_sld X.1 X.2.1 hX hbl (Nat.not_le.mpr hbl) hw.2.1 (ixs (by decide) hL hi li1) d_W_law_369 ?_
  refine r_callV (rest := []) (i := 0) X K hw hl.1 mf_W_59 rfl rfl rfl (c_V_demote l D cI cZ s.heap.size ad fz (xs (nI i + (1 : Int32)).toNatClampNeg) h p1) (by decide) ⟨Nat.le_of_ble_eq_true rfl, Nat.le_of_ble_eq_true rfl⟩ rfl rfl (Nat.le_of_ble_eq_true rfl) d_W_law_370 (fun v h2 H locs q hw => ?_)
  obtain ⟨rfl, rfl⟩ := q
  refine lv_aload_n X.1 X.2.1 d_W_law_373 rfl (hl.at 2 rfl) ?_
  refine lv_aload_n X.1 X.2.1 d_W_law_374 rfl (hl.at 0 rfl) ?_
  refine lv_iload_n X.1 X.2.1 d_W_law_375 rfl (hl.at 3 rfl) ?_
  refine lv_iconst (v := (1 : Int32)) X.1 X.2.1 d_W_law_376 (by decide) ?_
  refine lv_iadd X.1 X.2.1 d_W_law_377 ?_
  refine va_sld X.1 X.2.1 hX hbl (Nat.not_le.mpr hbl) hw.2.1 (ixs (by decide) hL hi li1) d_W_law_378 ?_
  refine r_callV (rest := [.int (B_V_demote fz (xs (nI i + (1 : Int32)).toNatClampNeg) h).1]) (i := 27) X K hw hl.1 mf_W_62 rfl rfl rfl (c_M_demote l D cI cZ s.heap.size ad fz (xs (nI i + (1 : Int32)).toNatClampNeg) (B_V_demote fz (xs (nI i + (1 : Int32)).toNatClampNeg) h).2 p2) (by decide) ⟨Nat.le_of_ble_eq_true rfl, Nat.le_of_ble_eq_true rfl⟩ rfl rfl (Nat.le_of_ble_eq_true rfl) d_W_law_379 (fun v h2 H locs q hw => ?_)
  obtain ⟨rfl, rfl⟩ := q
  refine lv_icmp_eq (tgt := 592) X.1 X.2.1 d_W_law_382 (by decide) (fun _ => ?_) (fun g => absurd e1 g)
  exact kk _ H locs hJ2 hw
set_option maxHeartbeats 4000000 in
set_option maxRecDepth 100000 in
theorem law_11 (X : CallFix p m c code 4 s #[Value.ref b] TB R_W) (K : KK D cI cZ s) (hX : va_X b L xs s s.heap) (hbl : b < s.heap.size) (hL : L ≤ 2048) (hi : i + 4 ≤ L) (fz : Nat) (hz : 400 ≤ fz) (ht : t ≤ 600) (hJ : J2 t h h) (hw : Hw D cI cZ s.heap.size ad s shape h H locs) (hl : Lc ls 4 [some (.ref b), some (.ref (ad 0)), some (.ref (ad 27)), some (.int (nI i))]) (kk : ∀ (h2 : HH) (H2 : Heap) (locs2 : List Loc), J2 (t + 1) h2 h2 → Hw D cI cZ s.heap.size ad s shape h2 H2 locs2 → W p l e room_1 s m #[Value.ref b] below meth c H2 locs2 52 4204 Q (F0 m 592 ls [])) : W p l e room_1 s m #[Value.ref b] below meth c H locs 52 4204 Q (F0 m 387 ls []) := by
  obtain ⟨p1, p2, e1, hJ2⟩ := X_discard fz hz ht hJ (xs (nI i + (1 : Int32)).toNatClampNeg)
  refine lv_aload_n X.1 X.2.1 d_W_law_387 rfl (hl.at 1 rfl) ?_
  refine lv_aload_n X.1 X.2.1 d_W_law_388 rfl (hl.at 0 rfl) ?_
  refine lv_iload_n X.1 X.2.1 d_W_law_389 rfl (hl.at 3 rfl) ?_
  refine lv_iconst (v := (1 : Int32)) X.1 X.2.1 d_W_law_390 (by decide) ?_
  refine lv_iadd X.1 X.2.1 d_W_law_391 ?_
  refine va_sld X.1 X.2.1 hX hbl (Nat.not_le.mpr hbl) hw.2.1 (ixs (by decide) hL hi li1) d_W_law_392 ?_
  refine r_callV (rest := []) (i := 0) X K hw hl.1 mf_W_63 rfl rfl rfl (c_V_discard l D cI cZ s.heap.size ad fz (xs (nI i + (1 : Int32)).toNatClampNeg) h p1) (by decide) ⟨Nat.le_of_ble_eq_true rfl, Nat.le_of_ble_eq_true rfl⟩ rfl rfl (Nat.le_of_ble_eq_true rfl) d_W_law_393 (fun v h2 H locs q hw => ?_)
  obtain ⟨rfl, rfl⟩ := q
  refine lv_aload_n X.1 X.2.1 d_W_law_396 rfl (hl.at 2 rfl) ?_
  refine lv_aload_n X.1 X.2.1 d_W_law_397 rfl (hl.at 0 rfl) ?_
  refine lv_iload_n X.1 X.2.1 d_W_law_398 rfl (hl.at 3 rfl) ?_
  refine lv_iconst (v := (1 : Int32)) X.1 X.2.1 d_W_law_399 (by decide) ?_
  refine lv_iadd X.1 X.2.1 d_W_law_400 ?_
  refine va_sld X.1 X.2.1 hX hbl (Nat.not_le.mpr hbl) hw.2.1 (ixs (by decide) hL hi li1) d_W_law_401 ?_
  refine r_callV (rest := [.int (B_V_discard fz (xs (nI i + (1 : Int32)).toNatClampNeg) h).1]) (i := 27) X K hw hl.1 mf_W_66 rfl rfl rfl (c_M_discard l D cI cZ s.heap.size ad fz (xs (nI i + (1 : Int32)).toNatClampNeg) (B_V_discard fz (xs (nI i + (1 : Int32)).toNatClampNeg) h).2 p2) (by decide) ⟨Nat.le_of_ble_eq_true rfl, Nat.le_of_ble_eq_true rfl⟩ rfl rfl (Nat.le_of_ble_eq_true rfl) d_W_law_402 (fun v h2 H locs q hw => ?_)
  obtain ⟨rfl, rfl⟩ := q
  refine lv_icmp_eq (tgt := 592) X.1 X.2.1 d_W_law_405 (by decide) (fun _ => ?_) (fun g => absurd e1 g)
  exact kk _ H locs hJ2 hw
set_option maxHeartbeats 4000000 in
set_option maxRecDepth 100000 in
theorem law_12 (X : CallFix p m c code 4 s #[Value.ref b] TB R_W) (K : KK D cI cZ s) (hX : va_X b L xs s s.heap) (hbl : b < s.heap.size) (hL : L ≤ 2048) (hi : i + 4 ≤ L) (fz : Nat) (hz : 400 ≤ fz) (ht : t ≤ 600) (hJ : J2 t h h) (hw : Hw D cI cZ s.heap.size ad s shape h H locs) (hl : Lc ls 4 [some (.ref b), some (.ref (ad 0)), some (.ref (ad 27)), some (.int (nI i))]) (kk : ∀ (h2 : HH) (H2 : Heap) (locs2 : List Loc), J2 (t + 1) h2 h2 → Hw D cI cZ s.heap.size ad s shape h2 H2 locs2 → W p l e room_1 s m #[Value.ref b] below meth c H2 locs2 52 4204 Q (F0 m 592 ls [])) : W p l e room_1 s m #[Value.ref b] below meth c H locs 52 4204 Q (F0 m 410 ls []) := by
  obtain ⟨p1, p2, e1⟩ := S_disk fz hz hJ (xs (nI i + (1 : Int32)).toNatClampNeg) (xs (nI i + (2 : Int32)).toNatClampNeg)
  refine lv_aload_n X.1 X.2.1 d_W_law_410 rfl (hl.at 1 rfl) ?_
  refine lv_aload_n X.1 X.2.1 d_W_law_411 rfl (hl.at 0 rfl) ?_
  refine lv_iload_n X.1 X.2.1 d_W_law_412 rfl (hl.at 3 rfl) ?_
  refine lv_iconst (v := (1 : Int32)) X.1 X.2.1 d_W_law_413 (by decide) ?_
  refine lv_iadd X.1 X.2.1 d_W_law_414 ?_
  refine va_sld X.1 X.2.1 hX hbl (Nat.not_le.mpr hbl) hw.2.1 (ixs (by decide) hL hi li1) d_W_law_415 ?_
  refine lv_aload_n X.1 X.2.1 d_W_law_416 rfl (hl.at 0 rfl) ?_
  refine lv_iload_n X.1 X.2.1 d_W_law_417 rfl (hl.at 3 rfl) ?_
  refine lv_iconst (v := (2 : Int32)) X.1 X.2.1 d_W_law_418 (by decide) ?_
  refine lv_iadd X.1 X.2.1 d_W_law_419 ?_
  refine va_sld X.1 X.2.1 hX hbl (Nat.not_le.mpr hbl) hw.2.1 (ixs (by decide) hL hi li2) d_W_law_420 ?_
  refine r_callV (rest := []) (i := 0) X K hw hl.1 mf_W_67 rfl rfl rfl (c_V_disk l D cI cZ s.heap.size ad fz (xs (nI i + (1 : Int32)).toNatClampNeg) (xs (nI i + (2 : Int32)).toNatClampNeg) h p1) (by decide) ⟨Nat.le_of_ble_eq_true rfl, Nat.le_of_ble_eq_true rfl⟩ rfl rfl (Nat.le_of_ble_eq_true rfl) d_W_law_421 (fun v h2 H locs q hw => ?_)
  obtain ⟨rfl, rfl⟩ := q
  refine lv_aload_n X.1 X.2.1 d_W_law_424 rfl (hl.at 2 rfl) ?_
  refine lv_aload_n X.1 X.2.1 d_W_law_425 rfl (hl.at 0 rfl) ?_
  refine lv_iload_n X.1 X.2.1 d_W_law_426 rfl (hl.at 3 rfl) ?_
  refine lv_iconst (v := (1 : Int32)) X.1 X.2.1 d_W_law_427 (by decide) ?_
  refine lv_iadd X.1 X.2.1 d_W_law_428 ?_
  refine va_sld X.1 X.2.1 hX hbl (Nat.not_le.mpr hbl) hw.2.1 (ixs (by decide) hL hi li1) d_W_law_429 ?_
  refine lv_aload_n X.1 X.2.1 d_W_law_430 rfl (hl.at 0 rfl) ?_
  refine lv_iload_n X.1 X.2.1 d_W_law_431 rfl (hl.at 3 rfl) ?_
  refine lv_iconst (v := (2 : Int32)) X.1 X.2.1 d_W_law_432 (by decide) ?_
  refine lv_iadd X.1 X.2.1 d_W_law_433 ?_
  refine va_sld X.1 X.2.1 hX hbl (Nat.not_le.mpr hbl) hw.2.1 (ixs (by decide) hL hi li2) d_W_law_434 ?_
  refine r_callV (rest := [.int (B_V_disk fz (xs (nI i + (1 : Int32)).toNatClampNeg) (xs (nI i + (2 : Int32)).toNatClampNeg) h)]) (i := 27) X K hw hl.1 mf_W_70 rfl rfl rfl (c_M_disk l D cI cZ s.heap.size ad fz (xs (nI i + (1 : Int32)).toNatClampNeg) (xs (nI i + (2 : Int32)).toNatClampNeg) h p2) (by decide) ⟨Nat.le_of_ble_eq_true rfl, Nat.le_of_ble_eq_true rfl⟩ rfl rfl (Nat.le_of_ble_eq_true rfl) d_W_law_435 (fun v h2 H locs q hw => ?_)
  obtain ⟨rfl, rfl⟩ := q
  refine lv_icmp_eq (tgt := 592) X.1 X.2.1 d_W_law_438 (by decide) (fun _ => ?_) (fun g => absurd e1 g)
  exact kk _ H locs (hJ.mono (by omega)) hw
set_option maxHeartbeats 4000000 in
set_option maxRecDepth 100000 in
theorem law_13 (X : CallFix p m c code 4 s #[Value.ref b] TB R_W) (K : KK D cI cZ s) (hX : va_X b L xs s s.heap) (hbl : b < s.heap.size) (hL : L ≤ 2048) (hi : i + 4 ≤ L) (fz : Nat) (hz : 400 ≤ fz) (ht : t ≤ 600) (hJ : J2 t h h) (hw : Hw D cI cZ s.heap.size ad s shape h H locs) (hl : Lc ls 4 [some (.ref b), some (.ref (ad 0)), some (.ref (ad 27)), some (.int (nI i))]) (kk : ∀ (h2 : HH) (H2 : Heap) (locs2 : List Loc), J2 (t + 1) h2 h2 → Hw D cI cZ s.heap.size ad s shape h2 H2 locs2 → W p l e room_1 s m #[Value.ref b] below meth c H2 locs2 52 4204 Q (F0 m 592 ls [])) : W p l e room_1 s m #[Value.ref b] below meth c H locs 52 4204 Q (F0 m 443 ls []) := by
  obtain ⟨p1, p2, e1⟩ := S_fate fz hz hJ (xs (nI i + (1 : Int32)).toNatClampNeg)
  refine lv_aload_n X.1 X.2.1 d_W_law_443 rfl (hl.at 1 rfl) ?_
  refine lv_aload_n X.1 X.2.1 d_W_law_444 rfl (hl.at 0 rfl) ?_
  refine lv_iload_n X.1 X.2.1 d_W_law_445 rfl (hl.at 3 rfl) ?_
  refine lv_iconst (v := (1 : Int32)) X.1 X.2.1 d_W_law_446 (by decide) ?_
  refine lv_iadd X.1 X.2.1 d_W_law_447 ?_
  refine va_sld X.1 X.2.1 hX hbl (Nat.not_le.mpr hbl) hw.2.1 (ixs (by decide) hL hi li1) d_W_law_448 ?_
  refine r_callV (rest := []) (i := 0) X K hw hl.1 mf_W_71 rfl rfl rfl (c_V_fate l D cI cZ s.heap.size ad fz (xs (nI i + (1 : Int32)).toNatClampNeg) h p1) (by decide) ⟨Nat.le_of_ble_eq_true rfl, Nat.le_of_ble_eq_true rfl⟩ rfl rfl (Nat.le_of_ble_eq_true rfl) d_W_law_449 (fun v h2 H locs q hw => ?_)
  obtain ⟨rfl, rfl⟩ := q
  refine lv_aload_n X.1 X.2.1 d_W_law_452 rfl (hl.at 2 rfl) ?_
  refine lv_aload_n X.1 X.2.1 d_W_law_453 rfl (hl.at 0 rfl) ?_
  refine lv_iload_n X.1 X.2.1 d_W_law_454 rfl (hl.at 3 rfl) ?_
  refine lv_iconst (v := (1 : Int32)) X.1 X.2.1 d_W_law_455 (by decide) ?_
  refine lv_iadd X.1 X.2.1 d_W_law_456 ?_
  refine va_sld X.1 X.2.1 hX hbl (Nat.not_le.mpr hbl) hw.2.1 (ixs (by decide) hL hi li1) d_W_law_457 ?_
  refine r_callV (rest := [.int (B_V_fate fz (xs (nI i + (1 : Int32)).toNatClampNeg) h)]) (i := 27) X K hw hl.1 mf_W_74 rfl rfl rfl (c_M_fate l D cI cZ s.heap.size ad fz (xs (nI i + (1 : Int32)).toNatClampNeg) h p2) (by decide) ⟨Nat.le_of_ble_eq_true rfl, Nat.le_of_ble_eq_true rfl⟩ rfl rfl (Nat.le_of_ble_eq_true rfl) d_W_law_458 (fun v h2 H locs q hw => ?_)
  obtain ⟨rfl, rfl⟩ := q
  refine lv_icmp_eq (tgt := 592) X.1 X.2.1 d_W_law_461 (by decide) (fun _ => ?_) (fun g => absurd e1 g)
  exact kk _ H locs (hJ.mono (by omega)) hw
set_option maxHeartbeats 4000000 in
set_option maxRecDepth 100000 in
theorem law_14 (X : CallFix p m c code 4 s #[Value.ref b] TB R_W) (K : KK D cI cZ s) (hX : va_X b L xs s s.heap) (hbl : b < s.heap.size) (hL : L ≤ 2048) (hi : i + 4 ≤ L) (fz : Nat) (hz : 400 ≤ fz) (ht : t ≤ 600) (hJ : J2 t h h) (hw : Hw D cI cZ s.heap.size ad s shape h H locs) (hl : Lc ls 4 [some (.ref b), some (.ref (ad 0)), some (.ref (ad 27)), some (.int (nI i))]) (kk : ∀ (h2 : HH) (H2 : Heap) (locs2 : List Loc), J2 (t + 1) h2 h2 → Hw D cI cZ s.heap.size ad s shape h2 H2 locs2 → W p l e room_1 s m #[Value.ref b] below meth c H2 locs2 52 4204 Q (F0 m 592 ls [])) : W p l e room_1 s m #[Value.ref b] below meth c H locs 52 4204 Q (F0 m 466 ls []) := by
  obtain ⟨p1, p2, e1⟩ := S_state fz hz hJ (xs (nI i + (1 : Int32)).toNatClampNeg)
  refine lv_aload_n X.1 X.2.1 d_W_law_466 rfl (hl.at 1 rfl) ?_
  refine lv_aload_n X.1 X.2.1 d_W_law_467 rfl (hl.at 0 rfl) ?_
  refine lv_iload_n X.1 X.2.1 d_W_law_468 rfl (hl.at 3 rfl) ?_
  refine lv_iconst (v := (1 : Int32)) X.1 X.2.1 d_W_law_469 (by decide) ?_
  refine lv_iadd X.1 X.2.1 d_W_law_470 ?_
  refine va_sld X.1 X.2.1 hX hbl (Nat.not_le.mpr hbl) hw.2.1 (ixs (by decide) hL hi li1) d_W_law_471 ?_
  refine r_callV (rest := []) (i := 0) X K hw hl.1 mf_W_75 rfl rfl rfl (c_V_state l D cI cZ s.heap.size ad fz (xs (nI i + (1 : Int32)).toNatClampNeg) h p1) (by decide) ⟨Nat.le_of_ble_eq_true rfl, Nat.le_of_ble_eq_true rfl⟩ rfl rfl (Nat.le_of_ble_eq_true rfl) d_W_law_472 (fun v h2 H locs q hw => ?_)
  obtain ⟨rfl, rfl⟩ := q
  refine lv_aload_n X.1 X.2.1 d_W_law_475 rfl (hl.at 2 rfl) ?_
  refine lv_aload_n X.1 X.2.1 d_W_law_476 rfl (hl.at 0 rfl) ?_
  refine lv_iload_n X.1 X.2.1 d_W_law_477 rfl (hl.at 3 rfl) ?_
  refine lv_iconst (v := (1 : Int32)) X.1 X.2.1 d_W_law_478 (by decide) ?_
  refine lv_iadd X.1 X.2.1 d_W_law_479 ?_
  refine va_sld X.1 X.2.1 hX hbl (Nat.not_le.mpr hbl) hw.2.1 (ixs (by decide) hL hi li1) d_W_law_480 ?_
  refine r_callV (rest := [.int (B_V_state fz (xs (nI i + (1 : Int32)).toNatClampNeg) h)]) (i := 27) X K hw hl.1 mf_W_78 rfl rfl rfl (c_M_state l D cI cZ s.heap.size ad fz (xs (nI i + (1 : Int32)).toNatClampNeg) h p2) (by decide) ⟨Nat.le_of_ble_eq_true rfl, Nat.le_of_ble_eq_true rfl⟩ rfl rfl (Nat.le_of_ble_eq_true rfl) d_W_law_481 (fun v h2 H locs q hw => ?_)
  obtain ⟨rfl, rfl⟩ := q
  refine lv_icmp_eq (tgt := 592) X.1 X.2.1 d_W_law_484 (by decide) (fun _ => ?_) (fun g => absurd e1 g)
  exact kk _ H locs (hJ.mono (by omega)) hw
set_option maxHeartbeats 4000000 in
set_option maxRecDepth 100000 in
theorem law_15 (X : CallFix p m c code 4 s #[Value.ref b] TB R_W) (K : KK D cI cZ s) (hX : va_X b L xs s s.heap) (hbl : b < s.heap.size) (hL : L ≤ 2048) (hi : i + 4 ≤ L) (fz : Nat) (hz : 400 ≤ fz) (ht : t ≤ 600) (hJ : J2 t h h) (hw : Hw D cI cZ s.heap.size ad s shape h H locs) (hl : Lc ls 4 [some (.ref b), some (.ref (ad 0)), some (.ref (ad 27)), some (.int (nI i))]) (kk : ∀ (h2 : HH) (H2 : Heap) (locs2 : List Loc), J2 (t + 1) h2 h2 → Hw D cI cZ s.heap.size ad s shape h2 H2 locs2 → W p l e room_1 s m #[Value.ref b] below meth c H2 locs2 52 4204 Q (F0 m 592 ls [])) : W p l e room_1 s m #[Value.ref b] below meth c H locs 52 4204 Q (F0 m 489 ls []) := by
  obtain ⟨p1, p2, e1⟩ := S_generation fz hz hJ (xs (nI i + (1 : Int32)).toNatClampNeg)
  refine lv_aload_n X.1 X.2.1 d_W_law_489 rfl (hl.at 1 rfl) ?_
  refine lv_aload_n X.1 X.2.1 d_W_law_490 rfl (hl.at 0 rfl) ?_
  refine lv_iload_n X.1 X.2.1 d_W_law_491 rfl (hl.at 3 rfl) ?_
  refine lv_iconst (v := (1 : Int32)) X.1 X.2.1 d_W_law_492 (by decide) ?_
  refine lv_iadd X.1 X.2.1 d_W_law_493 ?_
  refine va_sld X.1 X.2.1 hX hbl (Nat.not_le.mpr hbl) hw.2.1 (ixs (by decide) hL hi li1) d_W_law_494 ?_
  refine r_callV (rest := []) (i := 0) X K hw hl.1 mf_W_79 rfl rfl rfl (c_V_generation l D cI cZ s.heap.size ad fz (xs (nI i + (1 : Int32)).toNatClampNeg) h p1) (by decide) ⟨Nat.le_of_ble_eq_true rfl, Nat.le_of_ble_eq_true rfl⟩ rfl rfl (Nat.le_of_ble_eq_true rfl) d_W_law_495 (fun v h2 H locs q hw => ?_)
  obtain ⟨rfl, rfl⟩ := q
  refine lv_aload_n X.1 X.2.1 d_W_law_498 rfl (hl.at 2 rfl) ?_
  refine lv_aload_n X.1 X.2.1 d_W_law_499 rfl (hl.at 0 rfl) ?_
  refine lv_iload_n X.1 X.2.1 d_W_law_500 rfl (hl.at 3 rfl) ?_
  refine lv_iconst (v := (1 : Int32)) X.1 X.2.1 d_W_law_501 (by decide) ?_
  refine lv_iadd X.1 X.2.1 d_W_law_502 ?_
  refine va_sld X.1 X.2.1 hX hbl (Nat.not_le.mpr hbl) hw.2.1 (ixs (by decide) hL hi li1) d_W_law_503 ?_
  refine r_callV (rest := [.long (B_V_generation fz (xs (nI i + (1 : Int32)).toNatClampNeg) h)]) (i := 27) X K hw hl.1 mf_W_83 rfl rfl rfl (c_M_generation l D cI cZ s.heap.size ad fz (xs (nI i + (1 : Int32)).toNatClampNeg) h p2) (by decide) ⟨Nat.le_of_ble_eq_true rfl, Nat.le_of_ble_eq_true rfl⟩ rfl rfl (Nat.le_of_ble_eq_true rfl) d_W_law_504 (fun v h2 H locs q hw => ?_)
  obtain ⟨rfl, rfl⟩ := q
  refine W.lcmp X.1 X.2.1 d_W_law_507 ?_
  have hcmp : lg_cmp (B_V_generation fz (xs (nI i + (1 : Int32)).toNatClampNeg) h) (B_M_generation fz (xs (nI i + (1 : Int32)).toNatClampNeg) h) = 0 := by
    rw [e1]
    simp [lg_cmp]
  refine lv_if_eq (tgt := 592) X.1 X.2.1 d_W_law_508 (by decide) (fun _ => ?_) (fun g => absurd hcmp g)
  exact kk _ H locs (hJ.mono (by omega)) hw
set_option maxHeartbeats 4000000 in
set_option maxRecDepth 100000 in
theorem law_16 (X : CallFix p m c code 4 s #[Value.ref b] TB R_W) (K : KK D cI cZ s) (hX : va_X b L xs s s.heap) (hbl : b < s.heap.size) (hL : L ≤ 2048) (hi : i + 4 ≤ L) (fz : Nat) (hz : 400 ≤ fz) (ht : t ≤ 600) (hJ : J2 t h h) (hw : Hw D cI cZ s.heap.size ad s shape h H locs) (hl : Lc ls 4 [some (.ref b), some (.ref (ad 0)), some (.ref (ad 27)), some (.int (nI i))]) (kk : ∀ (h2 : HH) (H2 : Heap) (locs2 : List Loc), J2 (t + 1) h2 h2 → Hw D cI cZ s.heap.size ad s shape h2 H2 locs2 → W p l e room_1 s m #[Value.ref b] below meth c H2 locs2 52 4204 Q (F0 m 592 ls [])) : W p l e room_1 s m #[Value.ref b] below meth c H locs 52 4204 Q (F0 m 513 ls []) := by
  obtain ⟨p1, p2, e1⟩ := S_map fz hz hJ (xs (nI i + (1 : Int32)).toNatClampNeg)
  refine lv_aload_n X.1 X.2.1 d_W_law_513 rfl (hl.at 1 rfl) ?_
  refine lv_aload_n X.1 X.2.1 d_W_law_514 rfl (hl.at 0 rfl) ?_
  refine lv_iload_n X.1 X.2.1 d_W_law_515 rfl (hl.at 3 rfl) ?_
  refine lv_iconst (v := (1 : Int32)) X.1 X.2.1 d_W_law_516 (by decide) ?_
  refine lv_iadd X.1 X.2.1 d_W_law_517 ?_
  refine va_sld X.1 X.2.1 hX hbl (Nat.not_le.mpr hbl) hw.2.1 (ixs (by decide) hL hi li1) d_W_law_518 ?_
  refine r_callV (rest := []) (i := 0) X K hw hl.1 mf_W_84 rfl rfl rfl (c_V_map l D cI cZ s.heap.size ad fz (xs (nI i + (1 : Int32)).toNatClampNeg) h p1) (by decide) ⟨Nat.le_of_ble_eq_true rfl, Nat.le_of_ble_eq_true rfl⟩ rfl rfl (Nat.le_of_ble_eq_true rfl) d_W_law_519 (fun v h2 H locs q hw => ?_)
  obtain ⟨rfl, rfl⟩ := q
  refine lv_aload_n X.1 X.2.1 d_W_law_522 rfl (hl.at 2 rfl) ?_
  refine lv_aload_n X.1 X.2.1 d_W_law_523 rfl (hl.at 0 rfl) ?_
  refine lv_iload_n X.1 X.2.1 d_W_law_524 rfl (hl.at 3 rfl) ?_
  refine lv_iconst (v := (1 : Int32)) X.1 X.2.1 d_W_law_525 (by decide) ?_
  refine lv_iadd X.1 X.2.1 d_W_law_526 ?_
  refine va_sld X.1 X.2.1 hX hbl (Nat.not_le.mpr hbl) hw.2.1 (ixs (by decide) hL hi li1) d_W_law_527 ?_
  refine r_callV (rest := [.int (B_V_map fz (xs (nI i + (1 : Int32)).toNatClampNeg) h)]) (i := 27) X K hw hl.1 mf_W_87 rfl rfl rfl (c_M_map l D cI cZ s.heap.size ad fz (xs (nI i + (1 : Int32)).toNatClampNeg) h p2) (by decide) ⟨Nat.le_of_ble_eq_true rfl, Nat.le_of_ble_eq_true rfl⟩ rfl rfl (Nat.le_of_ble_eq_true rfl) d_W_law_528 (fun v h2 H locs q hw => ?_)
  obtain ⟨rfl, rfl⟩ := q
  refine lv_icmp_eq (tgt := 592) X.1 X.2.1 d_W_law_531 (by decide) (fun _ => ?_) (fun g => absurd e1 g)
  exact kk _ H locs (hJ.mono (by omega)) hw
set_option maxHeartbeats 4000000 in
set_option maxRecDepth 100000 in
theorem law_17 (X : CallFix p m c code 4 s #[Value.ref b] TB R_W) (K : KK D cI cZ s) (hX : va_X b L xs s s.heap) (hbl : b < s.heap.size) (hL : L ≤ 2048) (hi : i + 4 ≤ L) (fz : Nat) (hz : 400 ≤ fz) (ht : t ≤ 600) (hJ : J2 t h h) (hw : Hw D cI cZ s.heap.size ad s shape h H locs) (hl : Lc ls 4 [some (.ref b), some (.ref (ad 0)), some (.ref (ad 27)), some (.int (nI i))]) (kk : ∀ (h2 : HH) (H2 : Heap) (locs2 : List Loc), J2 (t + 1) h2 h2 → Hw D cI cZ s.heap.size ad s shape h2 H2 locs2 → W p l e room_1 s m #[Value.ref b] below meth c H2 locs2 52 4204 Q (F0 m 592 ls [])) : W p l e room_1 s m #[Value.ref b] below meth c H locs 52 4204 Q (F0 m 536 ls []) := by
  obtain ⟨p1, p2, e1⟩ := S_log fz hz hJ (xs (nI i + (1 : Int32)).toNatClampNeg) (xs (nI i + (2 : Int32)).toNatClampNeg)
  refine lv_aload_n X.1 X.2.1 d_W_law_536 rfl (hl.at 1 rfl) ?_
  refine lv_aload_n X.1 X.2.1 d_W_law_537 rfl (hl.at 0 rfl) ?_
  refine lv_iload_n X.1 X.2.1 d_W_law_538 rfl (hl.at 3 rfl) ?_
  refine lv_iconst (v := (1 : Int32)) X.1 X.2.1 d_W_law_539 (by decide) ?_
  refine lv_iadd X.1 X.2.1 d_W_law_540 ?_
  refine va_sld X.1 X.2.1 hX hbl (Nat.not_le.mpr hbl) hw.2.1 (ixs (by decide) hL hi li1) d_W_law_541 ?_
  refine lv_aload_n X.1 X.2.1 d_W_law_542 rfl (hl.at 0 rfl) ?_
  refine lv_iload_n X.1 X.2.1 d_W_law_543 rfl (hl.at 3 rfl) ?_
  refine lv_iconst (v := (2 : Int32)) X.1 X.2.1 d_W_law_544 (by decide) ?_
  refine lv_iadd X.1 X.2.1 d_W_law_545 ?_
  refine va_sld X.1 X.2.1 hX hbl (Nat.not_le.mpr hbl) hw.2.1 (ixs (by decide) hL hi li2) d_W_law_546 ?_
  refine r_callV (rest := []) (i := 0) X K hw hl.1 mf_W_88 rfl rfl rfl (c_V_log l D cI cZ s.heap.size ad fz (xs (nI i + (1 : Int32)).toNatClampNeg) (xs (nI i + (2 : Int32)).toNatClampNeg) h p1) (by decide) ⟨Nat.le_of_ble_eq_true rfl, Nat.le_of_ble_eq_true rfl⟩ rfl rfl (Nat.le_of_ble_eq_true rfl) d_W_law_547 (fun v h2 H locs q hw => ?_)
  obtain ⟨rfl, rfl⟩ := q
  refine lv_aload_n X.1 X.2.1 d_W_law_550 rfl (hl.at 2 rfl) ?_
  refine lv_aload_n X.1 X.2.1 d_W_law_551 rfl (hl.at 0 rfl) ?_
  refine lv_iload_n X.1 X.2.1 d_W_law_552 rfl (hl.at 3 rfl) ?_
  refine lv_iconst (v := (1 : Int32)) X.1 X.2.1 d_W_law_553 (by decide) ?_
  refine lv_iadd X.1 X.2.1 d_W_law_554 ?_
  refine va_sld X.1 X.2.1 hX hbl (Nat.not_le.mpr hbl) hw.2.1 (ixs (by decide) hL hi li1) d_W_law_555 ?_
  refine lv_aload_n X.1 X.2.1 d_W_law_556 rfl (hl.at 0 rfl) ?_
  refine lv_iload_n X.1 X.2.1 d_W_law_557 rfl (hl.at 3 rfl) ?_
  refine lv_iconst (v := (2 : Int32)) X.1 X.2.1 d_W_law_558 (by decide) ?_
  refine lv_iadd X.1 X.2.1 d_W_law_559 ?_
  refine va_sld X.1 X.2.1 hX hbl (Nat.not_le.mpr hbl) hw.2.1 (ixs (by decide) hL hi li2) d_W_law_560 ?_
  refine r_callV (rest := [.int (B_V_log fz (xs (nI i + (1 : Int32)).toNatClampNeg) (xs (nI i + (2 : Int32)).toNatClampNeg) h)]) (i := 27) X K hw hl.1 mf_W_91 rfl rfl rfl (c_M_log l D cI cZ s.heap.size ad fz (xs (nI i + (1 : Int32)).toNatClampNeg) (xs (nI i + (2 : Int32)).toNatClampNeg) h p2) (by decide) ⟨Nat.le_of_ble_eq_true rfl, Nat.le_of_ble_eq_true rfl⟩ rfl rfl (Nat.le_of_ble_eq_true rfl) d_W_law_561 (fun v h2 H locs q hw => ?_)
  obtain ⟨rfl, rfl⟩ := q
  refine lv_icmp_eq (tgt := 592) X.1 X.2.1 d_W_law_564 (by decide) (fun _ => ?_) (fun g => absurd e1 g)
  exact kk _ H locs (hJ.mono (by omega)) hw
set_option maxHeartbeats 4000000 in
set_option maxRecDepth 100000 in
theorem law_18 (X : CallFix p m c code 4 s #[Value.ref b] TB R_W) (K : KK D cI cZ s) (hX : va_X b L xs s s.heap) (hbl : b < s.heap.size) (hL : L ≤ 2048) (hi : i + 4 ≤ L) (fz : Nat) (hz : 400 ≤ fz) (ht : t ≤ 600) (hJ : J2 t h h) (hw : Hw D cI cZ s.heap.size ad s shape h H locs) (hl : Lc ls 4 [some (.ref b), some (.ref (ad 0)), some (.ref (ad 27)), some (.int (nI i))]) (kk : ∀ (h2 : HH) (H2 : Heap) (locs2 : List Loc), J2 (t + 1) h2 h2 → Hw D cI cZ s.heap.size ad s shape h2 H2 locs2 → W p l e room_1 s m #[Value.ref b] below meth c H2 locs2 52 4204 Q (F0 m 592 ls [])) : W p l e room_1 s m #[Value.ref b] below meth c H locs 52 4204 Q (F0 m 569 ls []) := by
  obtain ⟨p1, p2, e1⟩ := S_traffic fz hz hJ (xs (nI i + (1 : Int32)).toNatClampNeg)
  refine lv_aload_n X.1 X.2.1 d_W_law_569 rfl (hl.at 1 rfl) ?_
  refine lv_aload_n X.1 X.2.1 d_W_law_570 rfl (hl.at 0 rfl) ?_
  refine lv_iload_n X.1 X.2.1 d_W_law_571 rfl (hl.at 3 rfl) ?_
  refine lv_iconst (v := (1 : Int32)) X.1 X.2.1 d_W_law_572 (by decide) ?_
  refine lv_iadd X.1 X.2.1 d_W_law_573 ?_
  refine va_sld X.1 X.2.1 hX hbl (Nat.not_le.mpr hbl) hw.2.1 (ixs (by decide) hL hi li1) d_W_law_574 ?_
  refine r_callV (rest := []) (i := 0) X K hw hl.1 mf_W_92 rfl rfl rfl (c_V_traffic l D cI cZ s.heap.size ad fz (xs (nI i + (1 : Int32)).toNatClampNeg) h p1) (by decide) ⟨Nat.le_of_ble_eq_true rfl, Nat.le_of_ble_eq_true rfl⟩ rfl rfl (Nat.le_of_ble_eq_true rfl) d_W_law_575 (fun v h2 H locs q hw => ?_)
  obtain ⟨rfl, rfl⟩ := q
  refine lv_aload_n X.1 X.2.1 d_W_law_578 rfl (hl.at 2 rfl) ?_
  refine lv_aload_n X.1 X.2.1 d_W_law_579 rfl (hl.at 0 rfl) ?_
  refine lv_iload_n X.1 X.2.1 d_W_law_580 rfl (hl.at 3 rfl) ?_
  refine lv_iconst (v := (1 : Int32)) X.1 X.2.1 d_W_law_581 (by decide) ?_
  refine lv_iadd X.1 X.2.1 d_W_law_582 ?_
  refine va_sld X.1 X.2.1 hX hbl (Nat.not_le.mpr hbl) hw.2.1 (ixs (by decide) hL hi li1) d_W_law_583 ?_
  refine r_callV (rest := [.int (B_V_traffic fz (xs (nI i + (1 : Int32)).toNatClampNeg) h)]) (i := 27) X K hw hl.1 mf_W_95 rfl rfl rfl (c_M_traffic l D cI cZ s.heap.size ad fz (xs (nI i + (1 : Int32)).toNatClampNeg) h p2) (by decide) ⟨Nat.le_of_ble_eq_true rfl, Nat.le_of_ble_eq_true rfl⟩ rfl rfl (Nat.le_of_ble_eq_true rfl) d_W_law_584 (fun v h2 H locs q hw => ?_)
  obtain ⟨rfl, rfl⟩ := q
  refine lv_icmp_eq (tgt := 592) X.1 X.2.1 d_W_law_587 (by decide) (fun _ => ?_) (fun g => absurd e1 g)
  exact kk _ H locs (hJ.mono (by omega)) hw
end LAW
