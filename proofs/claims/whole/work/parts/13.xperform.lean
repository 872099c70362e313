set_option maxHeartbeats 4000000 in
set_option maxRecDepth 100000 in
theorem c_P_print (l : Launch) (D : va_G) (a : AX) (sz : Nat) (pc ac lk mq ma mb ir sw io dl ha rd sn md kf kb cn pf : Int32) (co ou : Nat → Int32) (x : Int32) (hn : a.2.2.2.2.2.2.2 ≤ 100) (hcn : ∃ k : Nat, k ≤ a.2.2.2.2.2.2.2 ∧ cn = nI k) (h37 : cn < (nI a.2.2.2.2.2.2.2)) : MV l D (wx a) (tx a) sz yP_print cP_print 2 1 [.ref a.2.2.2.1, .int x] (pc, ac, lk, mq, ma, mb, ir, sw, io, dl, ha, rd, sn, md, kf, kb, cn, pf, co, ou) (fun u => u = (pc, ac, lk, mq, ma, mb, ir, sw, io, dl, ha, rd, sn, md, kf, kb, (cn + 1), 1, co, (upd ou cn.toNatClampNeg (x &&& 255)))) := by
  refine en_v RP rfl (by decide) (Nat.le_of_ble_eq_true rfl) ?_
  intro p e s m below meth c A ls S hr hk hA hN hK hP hD hS hl
  have hl : lv_has ls 2 [(0, .ref a.2.2.2.1), (1, .int x)] := hl
  refine lv_aload_n S.1 S.2.1 dP_print_0 rfl (lv_at hl 0 rfl) ?_
  refine cl_i (As := []) (rest := []) S hN hK hP hD hS hA hl.1 (c_P_isFull l D a _ pc ac lk mq ma mb ir sw io dl ha rd sn md kf kb cn pf co ou ) k_P_23 (rc_P hK hP) ⟨by decide, by decide⟩ rfl rfl (Nat.le_of_ble_eq_true rfl) ⟨Nat.le_refl _, Nat.le_refl _⟩ dP_print_1 (fun r u H locs hw hP hD hS => ?_)
  obtain ⟨g1, rfl, rfl⟩ | ⟨g2, rfl, rfl⟩ := hw
  · refine lv_if_eq (tgt := 8) S.1 S.2.1 dP_print_4 (by decide) (fun _ => ?_) (fun g3 => absurd (by decide) g3)
    refine lv_aload_n S.1 S.2.1 dP_print_8 rfl (lv_at hl 0 rfl) ?_
    refine g_P_P_bytes S hK hP dP_print_9 ?_
    refine lv_aload_n S.1 S.2.1 dP_print_12 rfl (lv_at hl 0 rfl) ?_
    refine g_P_P_count S hK hP dP_print_13 ?_
    refine lv_iload_n S.1 S.2.1 dP_print_16 rfl (lv_at hl 1 rfl) ?_
    refine lv_sipush (v := 255) S.1 S.2.1 dP_print_17 (by decide) ?_
    refine lv_iand S.1 S.2.1 dP_print_20 ?_
    refine st_xou S hK hP hD hS (cn_in hn hcn h37) dP_print_21 (fun H locs hP hD hS => ?_)
    refine lv_aload_n S.1 S.2.1 dP_print_22 rfl (lv_at hl 0 rfl) ?_
    refine lv_dup S.1 S.2.1 dP_print_23 rfl ?_
    refine g_P_P_count S hK hP dP_print_24 ?_
    refine lv_iconst (v := 1) S.1 S.2.1 dP_print_27 (by decide) ?_
    refine lv_iadd S.1 S.2.1 dP_print_28 ?_
    refine p_P_P_count S hK hP hD hS dP_print_29 (fun H locs hP hD hS => ?_)
    refine lv_aload_n S.1 S.2.1 dP_print_32 rfl (lv_at hl 0 rfl) ?_
    refine lv_iconst (v := 1) S.1 S.2.1 dP_print_33 (by decide) ?_
    refine p_P_P_flag S hK hP hD hS rfl rfl dP_print_34 (fun H locs hP hD hS => ?_)
    exact rt_v S hr hk hK hP hD hS (rfl) dP_print_37
  · first | exact absurd g2 h37 | exact absurd h37 g2

set_option maxHeartbeats 4000000 in
set_option maxRecDepth 100000 in
theorem c_X_writePrinter (l : Launch) (D : va_G) (a : AX) (sz : Nat) (pc ac lk mq ma mb ir sw io dl ha rd sn md kf kb cn pf : Int32) (co ou : Nat → Int32) (hn : a.2.2.2.2.2.2.2 ≤ 100) (hcn : ∃ k : Nat, k ≤ a.2.2.2.2.2.2.2 ∧ cn = nI k) (h37 : cn < (nI a.2.2.2.2.2.2.2)) : MI l D (wx a) (tx a) sz yX_writePrinter cX_writePrinter 1 (some .int) 2 [.ref a.1] (pc, ac, lk, mq, ma, mb, ir, sw, io, dl, ha, rd, sn, md, kf, kb, cn, pf, co, ou) (fun r u => (r, u) = mu37 (pc, ac, lk, mq, ma, mb, ir, sw, io, dl, ha, rd, sn, md, kf, kb, cn, pf, co, ou)) := by
  refine en_i RX rfl (by decide) (Nat.le_of_ble_eq_true rfl) ?_
  intro p e s m below meth c A ls S hr hk hA hN hK hP hD hS hl
  have hl : lv_has ls 1 [(0, .ref a.1)] := hl
  refine lv_aload_n S.1 S.2.1 dX_writePrinter_0 rfl (lv_at hl 0 rfl) ?_
  refine g_X_X_printer S hK hP dX_writePrinter_1 ?_
  refine lv_aload_n S.1 S.2.1 dX_writePrinter_4 rfl (lv_at hl 0 rfl) ?_
  refine g_X_X_ac S hK hP dX_writePrinter_5 ?_
  refine cl_vN (As := [.int ac]) (rest := []) S hN hK hP hD hS hA hl.1 (c_P_print l D a _ pc ac lk mq ma mb ir sw io dl ha rd sn md kf kb cn pf co ou ac hn hcn h37) k_X_251 (nw_X_251 hN) (rc_P hK hP) ⟨by decide, by decide⟩ rfl rfl (Nat.le_of_ble_eq_true rfl) ⟨Nat.le_refl _, Nat.le_refl _⟩ dX_writePrinter_8 (fun u H locs hw hP hD hS => ?_)
  obtain rfl := hw
  refine lv_iconst (v := 0) S.1 S.2.1 dX_writePrinter_11 (by decide) ?_
  exact rt_i S hr hk hK hP hD hS ((by simp [mu37])) dX_writePrinter_12

set_option maxHeartbeats 4000000 in
set_option maxRecDepth 100000 in
theorem c_X_perform_0 (l : Launch) (D : va_G) (a : AX) (sz : Nat) (pc ac lk mq ma mb ir sw io dl ha rd sn md kf kb cn pf : Int32) (co ou : Nat → Int32) : MI l D (wx a) (tx a) sz yX_perform cX_perform 2 (some .int) 3 [.ref a.1, .int 0] (pc, ac, lk, mq, ma, mb, ir, sw, io, dl, ha, rd, sn, md, kf, kb, cn, pf, co, ou) (fun r u => (r, u) = mu0 (pc, ac, lk, mq, ma, mb, ir, sw, io, dl, ha, rd, sn, md, kf, kb, cn, pf, co, ou)) := by
  refine en_i RX rfl (by decide) (Nat.le_of_ble_eq_true rfl) ?_
  intro p e s m below meth c A ls S hr hk hA hN hK hP hD hS hl
  have hl : lv_has ls 2 [(0, .ref a.1), (1, .int 0)] := hl
  refine lv_iload_n S.1 S.2.1 dX_perform_0 rfl (lv_at hl 1 rfl) ?_
  refine lv_tableIn (off := 183) (tgt := 184) S.1 S.2.1 dX_perform_1 (by decide +kernel) (by decide +kernel) (by decide +kernel) (by decide) ?_
  refine lv_aload_n S.1 S.2.1 dX_perform_184 rfl (lv_at hl 0 rfl) ?_
  refine cl_i (As := []) (rest := []) S hN hK hP hD hS hA hl.1 (c_X_begin l D a _ pc ac lk mq ma mb ir sw io dl ha rd sn md kf kb cn pf co ou ) k_X_131 (rc_X hK hP) ⟨by decide, by decide⟩ rfl rfl (Nat.le_of_ble_eq_true rfl) ⟨Nat.le_refl _, Nat.le_refl _⟩ dX_perform_185 (fun r u H locs hw hP hD hS => ?_)
  exact rt_i S hr hk hK hP hD hS (hw) dX_perform_188

set_option maxHeartbeats 4000000 in
set_option maxRecDepth 100000 in
theorem c_X_perform_1 (l : Launch) (D : va_G) (a : AX) (sz : Nat) (pc ac lk mq ma mb ir sw io dl ha rd sn md kf kb cn pf : Int32) (co ou : Nat → Int32) : MI l D (wx a) (tx a) sz yX_perform cX_perform 2 (some .int) 3 [.ref a.1, .int 1] (pc, ac, lk, mq, ma, mb, ir, sw, io, dl, ha, rd, sn, md, kf, kb, cn, pf, co, ou) (fun r u => (r, u) = mu1 (pc, ac, lk, mq, ma, mb, ir, sw, io, dl, ha, rd, sn, md, kf, kb, cn, pf, co, ou)) := by
  refine en_i RX rfl (by decide) (Nat.le_of_ble_eq_true rfl) ?_
  intro p e s m below meth c A ls S hr hk hA hN hK hP hD hS hl
  have hl : lv_has ls 2 [(0, .ref a.1), (1, .int 1)] := hl
  refine lv_iload_n S.1 S.2.1 dX_perform_0 rfl (lv_at hl 1 rfl) ?_
  refine lv_tableIn (off := 188) (tgt := 189) S.1 S.2.1 dX_perform_1 (by decide +kernel) (by decide +kernel) (by decide +kernel) (by decide) ?_
  refine lv_aload_n S.1 S.2.1 dX_perform_189 rfl (lv_at hl 0 rfl) ?_
  refine cl_i (As := []) (rest := []) S hN hK hP hD hS hA hl.1 (c_X_fetch l D a _ pc ac lk mq ma mb ir sw io dl ha rd sn md kf kb cn pf co ou ) k_X_134 (rc_X hK hP) ⟨by decide, by decide⟩ rfl rfl (Nat.le_of_ble_eq_true rfl) ⟨Nat.le_refl _, Nat.le_refl _⟩ dX_perform_190 (fun r u H locs hw hP hD hS => ?_)
  exact rt_i S hr hk hK hP hD hS (hw) dX_perform_193

set_option maxHeartbeats 4000000 in
set_option maxRecDepth 100000 in
theorem c_X_perform_2 (l : Launch) (D : va_G) (a : AX) (sz : Nat) (pc ac lk mq ma mb ir sw io dl ha rd sn md kf kb cn pf : Int32) (co ou : Nat → Int32) : MI l D (wx a) (tx a) sz yX_perform cX_perform 2 (some .int) 3 [.ref a.1, .int 2] (pc, ac, lk, mq, ma, mb, ir, sw, io, dl, ha, rd, sn, md, kf, kb, cn, pf, co, ou) (fun r u => (r, u) = mu2 (pc, ac, lk, mq, ma, mb, ir, sw, io, dl, ha, rd, sn, md, kf, kb, cn, pf, co, ou)) := by
  refine en_i RX rfl (by decide) (Nat.le_of_ble_eq_true rfl) ?_
  intro p e s m below meth c A ls S hr hk hA hN hK hP hD hS hl
  have hl : lv_has ls 2 [(0, .ref a.1), (1, .int 2)] := hl
  refine lv_iload_n S.1 S.2.1 dX_perform_0 rfl (lv_at hl 1 rfl) ?_
  refine lv_tableIn (off := 193) (tgt := 194) S.1 S.2.1 dX_perform_1 (by decide +kernel) (by decide +kernel) (by decide +kernel) (by decide) ?_
  refine lv_aload_n S.1 S.2.1 dX_perform_194 rfl (lv_at hl 0 rfl) ?_
  refine cl_i (As := []) (rest := []) S hN hK hP hD hS hA hl.1 (c_X_findAddress l D a _ pc ac lk mq ma mb ir sw io dl ha rd sn md kf kb cn pf co ou ) k_X_137 (rc_X hK hP) ⟨by decide, by decide⟩ rfl rfl (Nat.le_of_ble_eq_true rfl) ⟨Nat.le_refl _, Nat.le_refl _⟩ dX_perform_195 (fun r u H locs hw hP hD hS => ?_)
  exact rt_i S hr hk hK hP hD hS (hw) dX_perform_198

set_option maxHeartbeats 4000000 in
set_option maxRecDepth 100000 in
theorem c_X_perform_3 (l : Launch) (D : va_G) (a : AX) (sz : Nat) (pc ac lk mq ma mb ir sw io dl ha rd sn md kf kb cn pf : Int32) (co ou : Nat → Int32) : MI l D (wx a) (tx a) sz yX_perform cX_perform 2 (some .int) 3 [.ref a.1, .int 3] (pc, ac, lk, mq, ma, mb, ir, sw, io, dl, ha, rd, sn, md, kf, kb, cn, pf, co, ou) (fun r u => (r, u) = mu3 (pc, ac, lk, mq, ma, mb, ir, sw, io, dl, ha, rd, sn, md, kf, kb, cn, pf, co, ou)) := by
  refine en_i RX rfl (by decide) (Nat.le_of_ble_eq_true rfl) ?_
  intro p e s m below meth c A ls S hr hk hA hN hK hP hD hS hl
  have hl : lv_has ls 2 [(0, .ref a.1), (1, .int 3)] := hl
  refine lv_iload_n S.1 S.2.1 dX_perform_0 rfl (lv_at hl 1 rfl) ?_
  refine lv_tableIn (off := 198) (tgt := 199) S.1 S.2.1 dX_perform_1 (by decide +kernel) (by decide +kernel) (by decide +kernel) (by decide) ?_
  refine lv_aload_n S.1 S.2.1 dX_perform_199 rfl (lv_at hl 0 rfl) ?_
  refine cl_i (As := []) (rest := []) S hN hK hP hD hS hA hl.1 (c_X_readPointer l D a _ pc ac lk mq ma mb ir sw io dl ha rd sn md kf kb cn pf co ou ) k_X_140 (rc_X hK hP) ⟨by decide, by decide⟩ rfl rfl (Nat.le_of_ble_eq_true rfl) ⟨Nat.le_refl _, Nat.le_refl _⟩ dX_perform_200 (fun r u H locs hw hP hD hS => ?_)
  exact rt_i S hr hk hK hP hD hS (hw) dX_perform_203

set_option maxHeartbeats 4000000 in
set_option maxRecDepth 100000 in
theorem c_X_perform_4 (l : Launch) (D : va_G) (a : AX) (sz : Nat) (pc ac lk mq ma mb ir sw io dl ha rd sn md kf kb cn pf : Int32) (co ou : Nat → Int32) : MI l D (wx a) (tx a) sz yX_perform cX_perform 2 (some .int) 3 [.ref a.1, .int 4] (pc, ac, lk, mq, ma, mb, ir, sw, io, dl, ha, rd, sn, md, kf, kb, cn, pf, co, ou) (fun r u => (r, u) = mu4 (pc, ac, lk, mq, ma, mb, ir, sw, io, dl, ha, rd, sn, md, kf, kb, cn, pf, co, ou)) := by
  refine en_i RX rfl (by decide) (Nat.le_of_ble_eq_true rfl) ?_
  intro p e s m below meth c A ls S hr hk hA hN hK hP hD hS hl
  have hl : lv_has ls 2 [(0, .ref a.1), (1, .int 4)] := hl
  refine lv_iload_n S.1 S.2.1 dX_perform_0 rfl (lv_at hl 1 rfl) ?_
  refine lv_tableIn (off := 203) (tgt := 204) S.1 S.2.1 dX_perform_1 (by decide +kernel) (by decide +kernel) (by decide +kernel) (by decide) ?_
  refine lv_aload_n S.1 S.2.1 dX_perform_204 rfl (lv_at hl 0 rfl) ?_
  refine cl_i (As := []) (rest := []) S hN hK hP hD hS hA hl.1 (c_X_advancePointer l D a _ pc ac lk mq ma mb ir sw io dl ha rd sn md kf kb cn pf co ou ) k_X_143 (rc_X hK hP) ⟨by decide, by decide⟩ rfl rfl (Nat.le_of_ble_eq_true rfl) ⟨Nat.le_refl _, Nat.le_refl _⟩ dX_perform_205 (fun r u H locs hw hP hD hS => ?_)
  exact rt_i S hr hk hK hP hD hS (hw) dX_perform_208

set_option maxHeartbeats 4000000 in
set_option maxRecDepth 100000 in
theorem c_X_perform_5 (l : Launch) (D : va_G) (a : AX) (sz : Nat) (pc ac lk mq ma mb ir sw io dl ha rd sn md kf kb cn pf : Int32) (co ou : Nat → Int32) : MI l D (wx a) (tx a) sz yX_perform cX_perform 2 (some .int) 3 [.ref a.1, .int 5] (pc, ac, lk, mq, ma, mb, ir, sw, io, dl, ha, rd, sn, md, kf, kb, cn, pf, co, ou) (fun r u => (r, u) = mu5 (pc, ac, lk, mq, ma, mb, ir, sw, io, dl, ha, rd, sn, md, kf, kb, cn, pf, co, ou)) := by
  refine en_i RX rfl (by decide) (Nat.le_of_ble_eq_true rfl) ?_
  intro p e s m below meth c A ls S hr hk hA hN hK hP hD hS hl
  have hl : lv_has ls 2 [(0, .ref a.1), (1, .int 5)] := hl
  refine lv_iload_n S.1 S.2.1 dX_perform_0 rfl (lv_at hl 1 rfl) ?_
  refine lv_tableIn (off := 208) (tgt := 209) S.1 S.2.1 dX_perform_1 (by decide +kernel) (by decide +kernel) (by decide +kernel) (by decide) ?_
  refine lv_aload_n S.1 S.2.1 dX_perform_209 rfl (lv_at hl 0 rfl) ?_
  refine cl_i (As := []) (rest := []) S hN hK hP hD hS hA hl.1 (c_X_followPointer l D a _ pc ac lk mq ma mb ir sw io dl ha rd sn md kf kb cn pf co ou ) k_X_146 (rc_X hK hP) ⟨by decide, by decide⟩ rfl rfl (Nat.le_of_ble_eq_true rfl) ⟨Nat.le_refl _, Nat.le_refl _⟩ dX_perform_210 (fun r u H locs hw hP hD hS => ?_)
  exact rt_i S hr hk hK hP hD hS (hw) dX_perform_213

set_option maxHeartbeats 4000000 in
set_option maxRecDepth 100000 in
theorem c_X_perform_8 (l : Launch) (D : va_G) (a : AX) (sz : Nat) (pc ac lk mq ma mb ir sw io dl ha rd sn md kf kb cn pf : Int32) (co ou : Nat → Int32) : MI l D (wx a) (tx a) sz yX_perform cX_perform 2 (some .int) 3 [.ref a.1, .int 8] (pc, ac, lk, mq, ma, mb, ir, sw, io, dl, ha, rd, sn, md, kf, kb, cn, pf, co, ou) (fun r u => (r, u) = mu8 (pc, ac, lk, mq, ma, mb, ir, sw, io, dl, ha, rd, sn, md, kf, kb, cn, pf, co, ou)) := by
  refine en_i RX rfl (by decide) (Nat.le_of_ble_eq_true rfl) ?_
  intro p e s m below meth c A ls S hr hk hA hN hK hP hD hS hl
  have hl : lv_has ls 2 [(0, .ref a.1), (1, .int 8)] := hl
  refine lv_iload_n S.1 S.2.1 dX_perform_0 rfl (lv_at hl 1 rfl) ?_
  refine lv_tableIn (off := 213) (tgt := 214) S.1 S.2.1 dX_perform_1 (by decide +kernel) (by decide +kernel) (by decide +kernel) (by decide) ?_
  refine lv_aload_n S.1 S.2.1 dX_perform_214 rfl (lv_at hl 0 rfl) ?_
  refine lv_bipush (v := 16) S.1 S.2.1 dX_perform_215 (by decide) ?_
  refine cl_i (As := [.int 16]) (rest := []) S hN hK hP hD hS hA hl.1 (c_X_readOperand l D a _ pc ac lk mq ma mb ir sw io dl ha rd sn md kf kb cn pf co ou 16) k_X_149 (rc_X hK hP) ⟨by decide, by decide⟩ rfl rfl (Nat.le_of_ble_eq_true rfl) ⟨Nat.le_refl _, Nat.le_refl _⟩ dX_perform_217 (fun r u H locs hw hP hD hS => ?_)
  obtain ⟨rfl, rfl⟩ := hw
  exact rt_i S hr hk hK hP hD hS ((by simp [mu8])) dX_perform_220

set_option maxHeartbeats 4000000 in
set_option maxRecDepth 100000 in
theorem c_X_perform_9 (l : Launch) (D : va_G) (a : AX) (sz : Nat) (pc ac lk mq ma mb ir sw io dl ha rd sn md kf kb cn pf : Int32) (co ou : Nat → Int32) : MI l D (wx a) (tx a) sz yX_perform cX_perform 2 (some .int) 3 [.ref a.1, .int 9] (pc, ac, lk, mq, ma, mb, ir, sw, io, dl, ha, rd, sn, md, kf, kb, cn, pf, co, ou) (fun r u => (r, u) = mu9 (pc, ac, lk, mq, ma, mb, ir, sw, io, dl, ha, rd, sn, md, kf, kb, cn, pf, co, ou)) := by
  refine en_i RX rfl (by decide) (Nat.le_of_ble_eq_true rfl) ?_
  intro p e s m below meth c A ls S hr hk hA hN hK hP hD hS hl
  have hl : lv_has ls 2 [(0, .ref a.1), (1, .int 9)] := hl
  refine lv_iload_n S.1 S.2.1 dX_perform_0 rfl (lv_at hl 1 rfl) ?_
  refine lv_tableIn (off := 220) (tgt := 221) S.1 S.2.1 dX_perform_1 (by decide +kernel) (by decide +kernel) (by decide +kernel) (by decide) ?_
  refine lv_aload_n S.1 S.2.1 dX_perform_221 rfl (lv_at hl 0 rfl) ?_
  refine lv_bipush (v := 17) S.1 S.2.1 dX_perform_222 (by decide) ?_
  refine cl_i (As := [.int 17]) (rest := []) S hN hK hP hD hS hA hl.1 (c_X_readOperand l D a _ pc ac lk mq ma mb ir sw io dl ha rd sn md kf kb cn pf co ou 17) k_X_149 (rc_X hK hP) ⟨by decide, by decide⟩ rfl rfl (Nat.le_of_ble_eq_true rfl) ⟨Nat.le_refl _, Nat.le_refl _⟩ dX_perform_224 (fun r u H locs hw hP hD hS => ?_)
  obtain ⟨rfl, rfl⟩ := hw
  exact rt_i S hr hk hK hP hD hS ((by simp [mu9])) dX_perform_227

set_option maxHeartbeats 4000000 in
set_option maxRecDepth 100000 in
theorem c_X_perform_10 (l : Launch) (D : va_G) (a : AX) (sz : Nat) (pc ac lk mq ma mb ir sw io dl ha rd sn md kf kb cn pf : Int32) (co ou : Nat → Int32) : MI l D (wx a) (tx a) sz yX_perform cX_perform 2 (some .int) 3 [.ref a.1, .int 10] (pc, ac, lk, mq, ma, mb, ir, sw, io, dl, ha, rd, sn, md, kf, kb, cn, pf, co, ou) (fun r u => (r, u) = mu10 (pc, ac, lk, mq, ma, mb, ir, sw, io, dl, ha, rd, sn, md, kf, kb, cn, pf, co, ou)) := by
  refine en_i RX rfl (by decide) (Nat.le_of_ble_eq_true rfl) ?_
  intro p e s m below meth c A ls S hr hk hA hN hK hP hD hS hl
  have hl : lv_has ls 2 [(0, .ref a.1), (1, .int 10)] := hl
  refine lv_iload_n S.1 S.2.1 dX_perform_0 rfl (lv_at hl 1 rfl) ?_
  refine lv_tableIn (off := 227) (tgt := 228) S.1 S.2.1 dX_perform_1 (by decide +kernel) (by decide +kernel) (by decide +kernel) (by decide) ?_
  refine lv_aload_n S.1 S.2.1 dX_perform_228 rfl (lv_at hl 0 rfl) ?_
  refine cl_i (As := []) (rest := []) S hN hK hP hD hS hA hl.1 (c_X_readOneMore l D a _ pc ac lk mq ma mb ir sw io dl ha rd sn md kf kb cn pf co ou ) k_X_152 (rc_X hK hP) ⟨by decide, by decide⟩ rfl rfl (Nat.le_of_ble_eq_true rfl) ⟨Nat.le_refl _, Nat.le_refl _⟩ dX_perform_229 (fun r u H locs hw hP hD hS => ?_)
  exact rt_i S hr hk hK hP hD hS (hw) dX_perform_232

set_option maxHeartbeats 4000000 in
set_option maxRecDepth 100000 in
theorem c_X_perform_11 (l : Launch) (D : va_G) (a : AX) (sz : Nat) (pc ac lk mq ma mb ir sw io dl ha rd sn md kf kb cn pf : Int32) (co ou : Nat → Int32) : MI l D (wx a) (tx a) sz yX_perform cX_perform 2 (some .int) 3 [.ref a.1, .int 11] (pc, ac, lk, mq, ma, mb, ir, sw, io, dl, ha, rd, sn, md, kf, kb, cn, pf, co, ou) (fun r u => (r, u) = mu11 (pc, ac, lk, mq, ma, mb, ir, sw, io, dl, ha, rd, sn, md, kf, kb, cn, pf, co, ou)) := by
  refine en_i RX rfl (by decide) (Nat.le_of_ble_eq_true rfl) ?_
  intro p e s m below meth c A ls S hr hk hA hN hK hP hD hS hl
  have hl : lv_has ls 2 [(0, .ref a.1), (1, .int 11)] := hl
  refine lv_iload_n S.1 S.2.1 dX_perform_0 rfl (lv_at hl 1 rfl) ?_
  refine lv_tableIn (off := 232) (tgt := 233) S.1 S.2.1 dX_perform_1 (by decide +kernel) (by decide +kernel) (by decide +kernel) (by decide) ?_
  refine lv_aload_n S.1 S.2.1 dX_perform_233 rfl (lv_at hl 0 rfl) ?_
  refine lv_aload_n S.1 S.2.1 dX_perform_234 rfl (lv_at hl 0 rfl) ?_
  refine g_X_X_ac S hK hP dX_perform_235 ?_
  refine lv_bipush (v := 19) S.1 S.2.1 dX_perform_238 (by decide) ?_
  refine cl_i (As := [.int ac, .int 19]) (rest := []) S hN hK hP hD hS hA hl.1 (c_X_takeIntoMb l D a _ pc ac lk mq ma mb ir sw io dl ha rd sn md kf kb cn pf co ou ac 19) k_X_155 (rc_X hK hP) ⟨by decide, by decide⟩ rfl rfl (Nat.le_of_ble_eq_true rfl) ⟨Nat.le_refl _, Nat.le_refl _⟩ dX_perform_240 (fun r u H locs hw hP hD hS => ?_)
  obtain ⟨rfl, rfl⟩ := hw
  exact rt_i S hr hk hK hP hD hS ((by simp [mu11])) dX_perform_243

set_option maxHeartbeats 4000000 in
set_option maxRecDepth 100000 in
theorem c_X_perform_12 (l : Launch) (D : va_G) (a : AX) (sz : Nat) (pc ac lk mq ma mb ir sw io dl ha rd sn md kf kb cn pf : Int32) (co ou : Nat → Int32) : MI l D (wx a) (tx a) sz yX_perform cX_perform 2 (some .int) 3 [.ref a.1, .int 12] (pc, ac, lk, mq, ma, mb, ir, sw, io, dl, ha, rd, sn, md, kf, kb, cn, pf, co, ou) (fun r u => (r, u) = mu12 (pc, ac, lk, mq, ma, mb, ir, sw, io, dl, ha, rd, sn, md, kf, kb, cn, pf, co, ou)) := by
  refine en_i RX rfl (by decide) (Nat.le_of_ble_eq_true rfl) ?_
  intro p e s m below meth c A ls S hr hk hA hN hK hP hD hS hl
  have hl : lv_has ls 2 [(0, .ref a.1), (1, .int 12)] := hl
  refine lv_iload_n S.1 S.2.1 dX_perform_0 rfl (lv_at hl 1 rfl) ?_
  refine lv_tableIn (off := 243) (tgt := 244) S.1 S.2.1 dX_perform_1 (by decide +kernel) (by decide +kernel) (by decide +kernel) (by decide) ?_
  refine lv_aload_n S.1 S.2.1 dX_perform_244 rfl (lv_at hl 0 rfl) ?_
  refine lv_aload_n S.1 S.2.1 dX_perform_245 rfl (lv_at hl 0 rfl) ?_
  refine g_X_X_pc S hK hP dX_perform_246 ?_
  refine lv_bipush (v := 15) S.1 S.2.1 dX_perform_249 (by decide) ?_
  refine cl_i (As := [.int pc, .int 15]) (rest := []) S hN hK hP hD hS hA hl.1 (c_X_takeIntoMb l D a _ pc ac lk mq ma mb ir sw io dl ha rd sn md kf kb cn pf co ou pc 15) k_X_155 (rc_X hK hP) ⟨by decide, by decide⟩ rfl rfl (Nat.le_of_ble_eq_true rfl) ⟨Nat.le_refl _, Nat.le_refl _⟩ dX_perform_251 (fun r u H locs hw hP hD hS => ?_)
  obtain ⟨rfl, rfl⟩ := hw
  exact rt_i S hr hk hK hP hD hS ((by simp [mu12])) dX_perform_254

set_option maxHeartbeats 4000000 in
set_option maxRecDepth 100000 in
theorem c_X_perform_13 (l : Launch) (D : va_G) (a : AX) (sz : Nat) (pc ac lk mq ma mb ir sw io dl ha rd sn md kf kb cn pf : Int32) (co ou : Nat → Int32) : MI l D (wx a) (tx a) sz yX_perform cX_perform 2 (some .int) 3 [.ref a.1, .int 13] (pc, ac, lk, mq, ma, mb, ir, sw, io, dl, ha, rd, sn, md, kf, kb, cn, pf, co, ou) (fun r u => (r, u) = mu13 (pc, ac, lk, mq, ma, mb, ir, sw, io, dl, ha, rd, sn, md, kf, kb, cn, pf, co, ou)) := by
  refine en_i RX rfl (by decide) (Nat.le_of_ble_eq_true rfl) ?_
  intro p e s m below meth c A ls S hr hk hA hN hK hP hD hS hl
  have hl : lv_has ls 2 [(0, .ref a.1), (1, .int 13)] := hl
  refine lv_iload_n S.1 S.2.1 dX_perform_0 rfl (lv_at hl 1 rfl) ?_
  refine lv_tableIn (off := 254) (tgt := 255) S.1 S.2.1 dX_perform_1 (by decide +kernel) (by decide +kernel) (by decide +kernel) (by decide) ?_
  refine lv_aload_n S.1 S.2.1 dX_perform_255 rfl (lv_at hl 0 rfl) ?_
  refine cl_i (As := []) (rest := []) S hN hK hP hD hS hA hl.1 (c_X_jump l D a _ pc ac lk mq ma mb ir sw io dl ha rd sn md kf kb cn pf co ou ) k_X_158 (rc_X hK hP) ⟨by decide, by decide⟩ rfl rfl (Nat.le_of_ble_eq_true rfl) ⟨Nat.le_refl _, Nat.le_refl _⟩ dX_perform_256 (fun r u H locs hw hP hD hS => ?_)
  exact rt_i S hr hk hK hP hD hS (hw) dX_perform_259

set_option maxHeartbeats 4000000 in
set_option maxRecDepth 100000 in
theorem c_X_perform_15 (l : Launch) (D : va_G) (a : AX) (sz : Nat) (pc ac lk mq ma mb ir sw io dl ha rd sn md kf kb cn pf : Int32) (co ou : Nat → Int32) : MI l D (wx a) (tx a) sz yX_perform cX_perform 2 (some .int) 3 [.ref a.1, .int 15] (pc, ac, lk, mq, ma, mb, ir, sw, io, dl, ha, rd, sn, md, kf, kb, cn, pf, co, ou) (fun r u => (r, u) = mu15 (pc, ac, lk, mq, ma, mb, ir, sw, io, dl, ha, rd, sn, md, kf, kb, cn, pf, co, ou)) := by
  refine en_i RX rfl (by decide) (Nat.le_of_ble_eq_true rfl) ?_
  intro p e s m below meth c A ls S hr hk hA hN hK hP hD hS hl
  have hl : lv_has ls 2 [(0, .ref a.1), (1, .int 15)] := hl
  refine lv_iload_n S.1 S.2.1 dX_perform_0 rfl (lv_at hl 1 rfl) ?_
  refine lv_tableIn (off := 259) (tgt := 260) S.1 S.2.1 dX_perform_1 (by decide +kernel) (by decide +kernel) (by decide +kernel) (by decide) ?_
  refine lv_aload_n S.1 S.2.1 dX_perform_260 rfl (lv_at hl 0 rfl) ?_
  refine cl_i (As := []) (rest := []) S hN hK hP hD hS hA hl.1 (c_X_storeAndGoBehind l D a _ pc ac lk mq ma mb ir sw io dl ha rd sn md kf kb cn pf co ou ) k_X_161 (rc_X hK hP) ⟨by decide, by decide⟩ rfl rfl (Nat.le_of_ble_eq_true rfl) ⟨Nat.le_refl _, Nat.le_refl _⟩ dX_perform_261 (fun r u H locs hw hP hD hS => ?_)
  exact rt_i S hr hk hK hP hD hS (hw) dX_perform_264

set_option maxHeartbeats 4000000 in
set_option maxRecDepth 100000 in
theorem c_X_perform_16 (l : Launch) (D : va_G) (a : AX) (sz : Nat) (pc ac lk mq ma mb ir sw io dl ha rd sn md kf kb cn pf : Int32) (co ou : Nat → Int32) : MI l D (wx a) (tx a) sz yX_perform cX_perform 2 (some .int) 3 [.ref a.1, .int 16] (pc, ac, lk, mq, ma, mb, ir, sw, io, dl, ha, rd, sn, md, kf, kb, cn, pf, co, ou) (fun r u => (r, u) = mu16 (pc, ac, lk, mq, ma, mb, ir, sw, io, dl, ha, rd, sn, md, kf, kb, cn, pf, co, ou)) := by
  refine en_i RX rfl (by decide) (Nat.le_of_ble_eq_true rfl) ?_
  intro p e s m below meth c A ls S hr hk hA hN hK hP hD hS hl
  have hl : lv_has ls 2 [(0, .ref a.1), (1, .int 16)] := hl
  refine lv_iload_n S.1 S.2.1 dX_perform_0 rfl (lv_at hl 1 rfl) ?_
  refine lv_tableIn (off := 264) (tgt := 265) S.1 S.2.1 dX_perform_1 (by decide +kernel) (by decide +kernel) (by decide +kernel) (by decide) ?_
  refine lv_aload_n S.1 S.2.1 dX_perform_265 rfl (lv_at hl 0 rfl) ?_
  refine cl_i (As := []) (rest := []) S hN hK hP hD hS hA hl.1 (c_X_andOperand l D a _ pc ac lk mq ma mb ir sw io dl ha rd sn md kf kb cn pf co ou ) k_X_164 (rc_X hK hP) ⟨by decide, by decide⟩ rfl rfl (Nat.le_of_ble_eq_true rfl) ⟨Nat.le_refl _, Nat.le_refl _⟩ dX_perform_266 (fun r u H locs hw hP hD hS => ?_)
  exact rt_i S hr hk hK hP hD hS (hw) dX_perform_269

set_option maxHeartbeats 4000000 in
set_option maxRecDepth 100000 in
theorem c_X_perform_17 (l : Launch) (D : va_G) (a : AX) (sz : Nat) (pc ac lk mq ma mb ir sw io dl ha rd sn md kf kb cn pf : Int32) (co ou : Nat → Int32) : MI l D (wx a) (tx a) sz yX_perform cX_perform 2 (some .int) 3 [.ref a.1, .int 17] (pc, ac, lk, mq, ma, mb, ir, sw, io, dl, ha, rd, sn, md, kf, kb, cn, pf, co, ou) (fun r u => (r, u) = mu17 (pc, ac, lk, mq, ma, mb, ir, sw, io, dl, ha, rd, sn, md, kf, kb, cn, pf, co, ou)) := by
  refine en_i RX rfl (by decide) (Nat.le_of_ble_eq_true rfl) ?_
  intro p e s m below meth c A ls S hr hk hA hN hK hP hD hS hl
  have hl : lv_has ls 2 [(0, .ref a.1), (1, .int 17)] := hl
  refine lv_iload_n S.1 S.2.1 dX_perform_0 rfl (lv_at hl 1 rfl) ?_
  refine lv_tableIn (off := 269) (tgt := 270) S.1 S.2.1 dX_perform_1 (by decide +kernel) (by decide +kernel) (by decide +kernel) (by decide) ?_
  refine lv_aload_n S.1 S.2.1 dX_perform_270 rfl (lv_at hl 0 rfl) ?_
  refine cl_i (As := []) (rest := []) S hN hK hP hD hS hA hl.1 (c_X_addOperand l D a _ pc ac lk mq ma mb ir sw io dl ha rd sn md kf kb cn pf co ou ) k_X_167 (rc_X hK hP) ⟨by decide, by decide⟩ rfl rfl (Nat.le_of_ble_eq_true rfl) ⟨Nat.le_refl _, Nat.le_refl _⟩ dX_perform_271 (fun r u H locs hw hP hD hS => ?_)
  exact rt_i S hr hk hK hP hD hS (hw) dX_perform_274

set_option maxHeartbeats 4000000 in
set_option maxRecDepth 100000 in
theorem c_X_perform_18 (l : Launch) (D : va_G) (a : AX) (sz : Nat) (pc ac lk mq ma mb ir sw io dl ha rd sn md kf kb cn pf : Int32) (co ou : Nat → Int32) : MI l D (wx a) (tx a) sz yX_perform cX_perform 2 (some .int) 3 [.ref a.1, .int 18] (pc, ac, lk, mq, ma, mb, ir, sw, io, dl, ha, rd, sn, md, kf, kb, cn, pf, co, ou) (fun r u => (r, u) = mu18 (pc, ac, lk, mq, ma, mb, ir, sw, io, dl, ha, rd, sn, md, kf, kb, cn, pf, co, ou)) := by
  refine en_i RX rfl (by decide) (Nat.le_of_ble_eq_true rfl) ?_
  intro p e s m below meth c A ls S hr hk hA hN hK hP hD hS hl
  have hl : lv_has ls 2 [(0, .ref a.1), (1, .int 18)] := hl
  refine lv_iload_n S.1 S.2.1 dX_perform_0 rfl (lv_at hl 1 rfl) ?_
  refine lv_tableIn (off := 274) (tgt := 275) S.1 S.2.1 dX_perform_1 (by decide +kernel) (by decide +kernel) (by decide +kernel) (by decide) ?_
  refine lv_aload_n S.1 S.2.1 dX_perform_275 rfl (lv_at hl 0 rfl) ?_
  refine cl_i (As := []) (rest := []) S hN hK hP hD hS hA hl.1 (c_X_storeAndSkipIfZero l D a _ pc ac lk mq ma mb ir sw io dl ha rd sn md kf kb cn pf co ou ) k_X_170 (rc_X hK hP) ⟨by decide, by decide⟩ rfl rfl (Nat.le_of_ble_eq_true rfl) ⟨Nat.le_refl _, Nat.le_refl _⟩ dX_perform_276 (fun r u H locs hw hP hD hS => ?_)
  exact rt_i S hr hk hK hP hD hS (hw) dX_perform_279

set_option maxHeartbeats 4000000 in
set_option maxRecDepth 100000 in
theorem c_X_perform_19 (l : Launch) (D : va_G) (a : AX) (sz : Nat) (pc ac lk mq ma mb ir sw io dl ha rd sn md kf kb cn pf : Int32) (co ou : Nat → Int32) : MI l D (wx a) (tx a) sz yX_perform cX_perform 2 (some .int) 3 [.ref a.1, .int 19] (pc, ac, lk, mq, ma, mb, ir, sw, io, dl, ha, rd, sn, md, kf, kb, cn, pf, co, ou) (fun r u => (r, u) = mu19 (pc, ac, lk, mq, ma, mb, ir, sw, io, dl, ha, rd, sn, md, kf, kb, cn, pf, co, ou)) := by
  refine en_i RX rfl (by decide) (Nat.le_of_ble_eq_true rfl) ?_
  intro p e s m below meth c A ls S hr hk hA hN hK hP hD hS hl
  have hl : lv_has ls 2 [(0, .ref a.1), (1, .int 19)] := hl
  refine lv_iload_n S.1 S.2.1 dX_perform_0 rfl (lv_at hl 1 rfl) ?_
  refine lv_tableIn (off := 279) (tgt := 280) S.1 S.2.1 dX_perform_1 (by decide +kernel) (by decide +kernel) (by decide +kernel) (by decide) ?_
  refine lv_aload_n S.1 S.2.1 dX_perform_280 rfl (lv_at hl 0 rfl) ?_
  refine cl_i (As := []) (rest := []) S hN hK hP hD hS hA hl.1 (c_X_storeAndClear l D a _ pc ac lk mq ma mb ir sw io dl ha rd sn md kf kb cn pf co ou ) k_X_173 (rc_X hK hP) ⟨by decide, by decide⟩ rfl rfl (Nat.le_of_ble_eq_true rfl) ⟨Nat.le_refl _, Nat.le_refl _⟩ dX_perform_281 (fun r u H locs hw hP hD hS => ?_)
  exact rt_i S hr hk hK hP hD hS (hw) dX_perform_284

set_option maxHeartbeats 4000000 in
set_option maxRecDepth 100000 in
theorem c_X_perform_20 (l : Launch) (D : va_G) (a : AX) (sz : Nat) (pc ac lk mq ma mb ir sw io dl ha rd sn md kf kb cn pf : Int32) (co ou : Nat → Int32) : MI l D (wx a) (tx a) sz yX_perform cX_perform 2 (some .int) 3 [.ref a.1, .int 20] (pc, ac, lk, mq, ma, mb, ir, sw, io, dl, ha, rd, sn, md, kf, kb, cn, pf, co, ou) (fun r u => (r, u) = mu20 (pc, ac, lk, mq, ma, mb, ir, sw, io, dl, ha, rd, sn, md, kf, kb, cn, pf, co, ou)) := by
  refine en_i RX rfl (by decide) (Nat.le_of_ble_eq_true rfl) ?_
  intro p e s m below meth c A ls S hr hk hA hN hK hP hD hS hl
  have hl : lv_has ls 2 [(0, .ref a.1), (1, .int 20)] := hl
  refine lv_iload_n S.1 S.2.1 dX_perform_0 rfl (lv_at hl 1 rfl) ?_
  refine lv_tableIn (off := 284) (tgt := 285) S.1 S.2.1 dX_perform_1 (by decide +kernel) (by decide +kernel) (by decide +kernel) (by decide) ?_
  refine lv_aload_n S.1 S.2.1 dX_perform_285 rfl (lv_at hl 0 rfl) ?_
  refine cl_i (As := []) (rest := []) S hN hK hP hD hS hA hl.1 (c_X_chooseOperateGroup l D a _ pc ac lk mq ma mb ir sw io dl ha rd sn md kf kb cn pf co ou ) k_X_176 (rc_X hK hP) ⟨by decide, by decide⟩ rfl rfl (Nat.le_of_ble_eq_true rfl) ⟨Nat.le_refl _, Nat.le_refl _⟩ dX_perform_286 (fun r u H locs hw hP hD hS => ?_)
  exact rt_i S hr hk hK hP hD hS (hw) dX_perform_289

set_option maxHeartbeats 4000000 in
set_option maxRecDepth 100000 in
theorem c_X_perform_21 (l : Launch) (D : va_G) (a : AX) (sz : Nat) (pc ac lk mq ma mb ir sw io dl ha rd sn md kf kb cn pf : Int32) (co ou : Nat → Int32) : MI l D (wx a) (tx a) sz yX_perform cX_perform 2 (some .int) 3 [.ref a.1, .int 21] (pc, ac, lk, mq, ma, mb, ir, sw, io, dl, ha, rd, sn, md, kf, kb, cn, pf, co, ou) (fun r u => (r, u) = mu21 (pc, ac, lk, mq, ma, mb, ir, sw, io, dl, ha, rd, sn, md, kf, kb, cn, pf, co, ou)) := by
  refine en_i RX rfl (by decide) (Nat.le_of_ble_eq_true rfl) ?_
  intro p e s m below meth c A ls S hr hk hA hN hK hP hD hS hl
  have hl : lv_has ls 2 [(0, .ref a.1), (1, .int 21)] := hl
  refine lv_iload_n S.1 S.2.1 dX_perform_0 rfl (lv_at hl 1 rfl) ?_
  refine lv_tableIn (off := 289) (tgt := 290) S.1 S.2.1 dX_perform_1 (by decide +kernel) (by decide +kernel) (by decide +kernel) (by decide) ?_
  refine lv_aload_n S.1 S.2.1 dX_perform_290 rfl (lv_at hl 0 rfl) ?_
  refine cl_i (As := []) (rest := []) S hN hK hP hD hS hA hl.1 (c_X_clear l D a _ pc ac lk mq ma mb ir sw io dl ha rd sn md kf kb cn pf co ou ) k_X_179 (rc_X hK hP) ⟨by decide, by decide⟩ rfl rfl (Nat.le_of_ble_eq_true rfl) ⟨Nat.le_refl _, Nat.le_refl _⟩ dX_perform_291 (fun r u H locs hw hP hD hS => ?_)
  exact rt_i S hr hk hK hP hD hS (hw) dX_perform_294

set_option maxHeartbeats 4000000 in
set_option maxRecDepth 100000 in
theorem c_X_perform_22 (l : Launch) (D : va_G) (a : AX) (sz : Nat) (pc ac lk mq ma mb ir sw io dl ha rd sn md kf kb cn pf : Int32) (co ou : Nat → Int32) : MI l D (wx a) (tx a) sz yX_perform cX_perform 2 (some .int) 3 [.ref a.1, .int 22] (pc, ac, lk, mq, ma, mb, ir, sw, io, dl, ha, rd, sn, md, kf, kb, cn, pf, co, ou) (fun r u => (r, u) = mu22 (pc, ac, lk, mq, ma, mb, ir, sw, io, dl, ha, rd, sn, md, kf, kb, cn, pf, co, ou)) := by
  refine en_i RX rfl (by decide) (Nat.le_of_ble_eq_true rfl) ?_
  intro p e s m below meth c A ls S hr hk hA hN hK hP hD hS hl
  have hl : lv_has ls 2 [(0, .ref a.1), (1, .int 22)] := hl
  refine lv_iload_n S.1 S.2.1 dX_perform_0 rfl (lv_at hl 1 rfl) ?_
  refine lv_tableIn (off := 294) (tgt := 295) S.1 S.2.1 dX_perform_1 (by decide +kernel) (by decide +kernel) (by decide +kernel) (by decide) ?_
  refine lv_aload_n S.1 S.2.1 dX_perform_295 rfl (lv_at hl 0 rfl) ?_
  refine cl_i (As := []) (rest := []) S hN hK hP hD hS hA hl.1 (c_X_complement l D a _ pc ac lk mq ma mb ir sw io dl ha rd sn md kf kb cn pf co ou ) k_X_182 (rc_X hK hP) ⟨by decide, by decide⟩ rfl rfl (Nat.le_of_ble_eq_true rfl) ⟨Nat.le_refl _, Nat.le_refl _⟩ dX_perform_296 (fun r u H locs hw hP hD hS => ?_)
  exact rt_i S hr hk hK hP hD hS (hw) dX_perform_299

set_option maxHeartbeats 4000000 in
set_option maxRecDepth 100000 in
theorem c_X_perform_23 (l : Launch) (D : va_G) (a : AX) (sz : Nat) (pc ac lk mq ma mb ir sw io dl ha rd sn md kf kb cn pf : Int32) (co ou : Nat → Int32) : MI l D (wx a) (tx a) sz yX_perform cX_perform 2 (some .int) 3 [.ref a.1, .int 23] (pc, ac, lk, mq, ma, mb, ir, sw, io, dl, ha, rd, sn, md, kf, kb, cn, pf, co, ou) (fun r u => (r, u) = mu23 (pc, ac, lk, mq, ma, mb, ir, sw, io, dl, ha, rd, sn, md, kf, kb, cn, pf, co, ou)) := by
  refine en_i RX rfl (by decide) (Nat.le_of_ble_eq_true rfl) ?_
  intro p e s m below meth c A ls S hr hk hA hN hK hP hD hS hl
  have hl : lv_has ls 2 [(0, .ref a.1), (1, .int 23)] := hl
  refine lv_iload_n S.1 S.2.1 dX_perform_0 rfl (lv_at hl 1 rfl) ?_
  refine lv_tableIn (off := 299) (tgt := 300) S.1 S.2.1 dX_perform_1 (by decide +kernel) (by decide +kernel) (by decide +kernel) (by decide) ?_
  refine lv_aload_n S.1 S.2.1 dX_perform_300 rfl (lv_at hl 0 rfl) ?_
  refine cl_i (As := []) (rest := []) S hN hK hP hD hS hA hl.1 (c_X_increment l D a _ pc ac lk mq ma mb ir sw io dl ha rd sn md kf kb cn pf co ou ) k_X_185 (rc_X hK hP) ⟨by decide, by decide⟩ rfl rfl (Nat.le_of_ble_eq_true rfl) ⟨Nat.le_refl _, Nat.le_refl _⟩ dX_perform_301 (fun r u H locs hw hP hD hS => ?_)
  exact rt_i S hr hk hK hP hD hS (hw) dX_perform_304

set_option maxHeartbeats 4000000 in
set_option maxRecDepth 100000 in
theorem c_X_perform_24 (l : Launch) (D : va_G) (a : AX) (sz : Nat) (pc ac lk mq ma mb ir sw io dl ha rd sn md kf kb cn pf : Int32) (co ou : Nat → Int32) : MI l D (wx a) (tx a) sz yX_perform cX_perform 2 (some .int) 3 [.ref a.1, .int 24] (pc, ac, lk, mq, ma, mb, ir, sw, io, dl, ha, rd, sn, md, kf, kb, cn, pf, co, ou) (fun r u => (r, u) = mu24 (pc, ac, lk, mq, ma, mb, ir, sw, io, dl, ha, rd, sn, md, kf, kb, cn, pf, co, ou)) := by
  refine en_i RX rfl (by decide) (Nat.le_of_ble_eq_true rfl) ?_
  intro p e s m below meth c A ls S hr hk hA hN hK hP hD hS hl
  have hl : lv_has ls 2 [(0, .ref a.1), (1, .int 24)] := hl
  refine lv_iload_n S.1 S.2.1 dX_perform_0 rfl (lv_at hl 1 rfl) ?_
  refine lv_tableIn (off := 304) (tgt := 305) S.1 S.2.1 dX_perform_1 (by decide +kernel) (by decide +kernel) (by decide +kernel) (by decide) ?_
  refine lv_aload_n S.1 S.2.1 dX_perform_305 rfl (lv_at hl 0 rfl) ?_
  refine cl_i (As := []) (rest := []) S hN hK hP hD hS hA hl.1 (c_X_rotateFirst l D a _ pc ac lk mq ma mb ir sw io dl ha rd sn md kf kb cn pf co ou ) k_X_188 (rc_X hK hP) ⟨by decide, by decide⟩ rfl rfl (Nat.le_of_ble_eq_true rfl) ⟨Nat.le_refl _, Nat.le_refl _⟩ dX_perform_306 (fun r u H locs hw hP hD hS => ?_)
  exact rt_i S hr hk hK hP hD hS (hw) dX_perform_309

set_option maxHeartbeats 4000000 in
set_option maxRecDepth 100000 in
theorem c_X_perform_25 (l : Launch) (D : va_G) (a : AX) (sz : Nat) (pc ac lk mq ma mb ir sw io dl ha rd sn md kf kb cn pf : Int32) (co ou : Nat → Int32) : MI l D (wx a) (tx a) sz yX_perform cX_perform 2 (some .int) 3 [.ref a.1, .int 25] (pc, ac, lk, mq, ma, mb, ir, sw, io, dl, ha, rd, sn, md, kf, kb, cn, pf, co, ou) (fun r u => (r, u) = mu25 (pc, ac, lk, mq, ma, mb, ir, sw, io, dl, ha, rd, sn, md, kf, kb, cn, pf, co, ou)) := by
  refine en_i RX rfl (by decide) (Nat.le_of_ble_eq_true rfl) ?_
  intro p e s m below meth c A ls S hr hk hA hN hK hP hD hS hl
  have hl : lv_has ls 2 [(0, .ref a.1), (1, .int 25)] := hl
  refine lv_iload_n S.1 S.2.1 dX_perform_0 rfl (lv_at hl 1 rfl) ?_
  refine lv_tableIn (off := 309) (tgt := 310) S.1 S.2.1 dX_perform_1 (by decide +kernel) (by decide +kernel) (by decide +kernel) (by decide) ?_
  refine lv_aload_n S.1 S.2.1 dX_perform_310 rfl (lv_at hl 0 rfl) ?_
  refine cl_i (As := []) (rest := []) S hN hK hP hD hS hA hl.1 (c_X_rotateLast l D a _ pc ac lk mq ma mb ir sw io dl ha rd sn md kf kb cn pf co ou ) k_X_191 (rc_X hK hP) ⟨by decide, by decide⟩ rfl rfl (Nat.le_of_ble_eq_true rfl) ⟨Nat.le_refl _, Nat.le_refl _⟩ dX_perform_311 (fun r u H locs hw hP hD hS => ?_)
  exact rt_i S hr hk hK hP hD hS (hw) dX_perform_314

set_option maxHeartbeats 4000000 in
set_option maxRecDepth 100000 in
theorem c_X_perform_26 (l : Launch) (D : va_G) (a : AX) (sz : Nat) (pc ac lk mq ma mb ir sw io dl ha rd sn md kf kb cn pf : Int32) (co ou : Nat → Int32) : MI l D (wx a) (tx a) sz yX_perform cX_perform 2 (some .int) 3 [.ref a.1, .int 26] (pc, ac, lk, mq, ma, mb, ir, sw, io, dl, ha, rd, sn, md, kf, kb, cn, pf, co, ou) (fun r u => (r, u) = mu26 (pc, ac, lk, mq, ma, mb, ir, sw, io, dl, ha, rd, sn, md, kf, kb, cn, pf, co, ou)) := by
  refine en_i RX rfl (by decide) (Nat.le_of_ble_eq_true rfl) ?_
  intro p e s m below meth c A ls S hr hk hA hN hK hP hD hS hl
  have hl : lv_has ls 2 [(0, .ref a.1), (1, .int 26)] := hl
  refine lv_iload_n S.1 S.2.1 dX_perform_0 rfl (lv_at hl 1 rfl) ?_
  refine lv_tableIn (off := 314) (tgt := 315) S.1 S.2.1 dX_perform_1 (by decide +kernel) (by decide +kernel) (by decide +kernel) (by decide) ?_
  refine lv_aload_n S.1 S.2.1 dX_perform_315 rfl (lv_at hl 0 rfl) ?_
  refine cl_i (As := []) (rest := []) S hN hK hP hD hS hA hl.1 (c_X_test l D a _ pc ac lk mq ma mb ir sw io dl ha rd sn md kf kb cn pf co ou ) k_X_194 (rc_X hK hP) ⟨by decide, by decide⟩ rfl rfl (Nat.le_of_ble_eq_true rfl) ⟨Nat.le_refl _, Nat.le_refl _⟩ dX_perform_316 (fun r u H locs hw hP hD hS => ?_)
  exact rt_i S hr hk hK hP hD hS (hw) dX_perform_319

set_option maxHeartbeats 4000000 in
set_option maxRecDepth 100000 in
theorem c_X_perform_27 (l : Launch) (D : va_G) (a : AX) (sz : Nat) (pc ac lk mq ma mb ir sw io dl ha rd sn md kf kb cn pf : Int32) (co ou : Nat → Int32) : MI l D (wx a) (tx a) sz yX_perform cX_perform 2 (some .int) 3 [.ref a.1, .int 27] (pc, ac, lk, mq, ma, mb, ir, sw, io, dl, ha, rd, sn, md, kf, kb, cn, pf, co, ou) (fun r u => (r, u) = mu27 (pc, ac, lk, mq, ma, mb, ir, sw, io, dl, ha, rd, sn, md, kf, kb, cn, pf, co, ou)) := by
  refine en_i RX rfl (by decide) (Nat.le_of_ble_eq_true rfl) ?_
  intro p e s m below meth c A ls S hr hk hA hN hK hP hD hS hl
  have hl : lv_has ls 2 [(0, .ref a.1), (1, .int 27)] := hl
  refine lv_iload_n S.1 S.2.1 dX_perform_0 rfl (lv_at hl 1 rfl) ?_
  refine lv_tableIn (off := 319) (tgt := 320) S.1 S.2.1 dX_perform_1 (by decide +kernel) (by decide +kernel) (by decide +kernel) (by decide) ?_
  refine lv_aload_n S.1 S.2.1 dX_perform_320 rfl (lv_at hl 0 rfl) ?_
  refine cl_i (As := []) (rest := []) S hN hK hP hD hS hA hl.1 (c_X_clearAfterTest l D a _ pc ac lk mq ma mb ir sw io dl ha rd sn md kf kb cn pf co ou ) k_X_197 (rc_X hK hP) ⟨by decide, by decide⟩ rfl rfl (Nat.le_of_ble_eq_true rfl) ⟨Nat.le_refl _, Nat.le_refl _⟩ dX_perform_321 (fun r u H locs hw hP hD hS => ?_)
  exact rt_i S hr hk hK hP hD hS (hw) dX_perform_324

set_option maxHeartbeats 4000000 in
set_option maxRecDepth 100000 in
theorem c_X_perform_28 (l : Launch) (D : va_G) (a : AX) (sz : Nat) (pc ac lk mq ma mb ir sw io dl ha rd sn md kf kb cn pf : Int32) (co ou : Nat → Int32) : MI l D (wx a) (tx a) sz yX_perform cX_perform 2 (some .int) 3 [.ref a.1, .int 28] (pc, ac, lk, mq, ma, mb, ir, sw, io, dl, ha, rd, sn, md, kf, kb, cn, pf, co, ou) (fun r u => (r, u) = mu28 (pc, ac, lk, mq, ma, mb, ir, sw, io, dl, ha, rd, sn, md, kf, kb, cn, pf, co, ou)) := by
  refine en_i RX rfl (by decide) (Nat.le_of_ble_eq_true rfl) ?_
  intro p e s m below meth c A ls S hr hk hA hN hK hP hD hS hl
  have hl : lv_has ls 2 [(0, .ref a.1), (1, .int 28)] := hl
  refine lv_iload_n S.1 S.2.1 dX_perform_0 rfl (lv_at hl 1 rfl) ?_
  refine lv_tableIn (off := 324) (tgt := 325) S.1 S.2.1 dX_perform_1 (by decide +kernel) (by decide +kernel) (by decide +kernel) (by decide) ?_
  refine lv_aload_n S.1 S.2.1 dX_perform_325 rfl (lv_at hl 0 rfl) ?_
  refine cl_i (As := []) (rest := []) S hN hK hP hD hS hA hl.1 (c_X_switchesAndHalt l D a _ pc ac lk mq ma mb ir sw io dl ha rd sn md kf kb cn pf co ou ) k_X_200 (rc_X hK hP) ⟨by decide, by decide⟩ rfl rfl (Nat.le_of_ble_eq_true rfl) ⟨Nat.le_refl _, Nat.le_refl _⟩ dX_perform_326 (fun r u H locs hw hP hD hS => ?_)
  exact rt_i S hr hk hK hP hD hS (hw) dX_perform_329

set_option maxHeartbeats 4000000 in
set_option maxRecDepth 100000 in
theorem c_X_perform_30 (l : Launch) (D : va_G) (a : AX) (sz : Nat) (pc ac lk mq ma mb ir sw io dl ha rd sn md kf kb cn pf : Int32) (co ou : Nat → Int32) : MI l D (wx a) (tx a) sz yX_perform cX_perform 2 (some .int) 3 [.ref a.1, .int 30] (pc, ac, lk, mq, ma, mb, ir, sw, io, dl, ha, rd, sn, md, kf, kb, cn, pf, co, ou) (fun r u => (r, u) = mu30 (pc, ac, lk, mq, ma, mb, ir, sw, io, dl, ha, rd, sn, md, kf, kb, cn, pf, co, ou)) := by
  refine en_i RX rfl (by decide) (Nat.le_of_ble_eq_true rfl) ?_
  intro p e s m below meth c A ls S hr hk hA hN hK hP hD hS hl
  have hl : lv_has ls 2 [(0, .ref a.1), (1, .int 30)] := hl
  refine lv_iload_n S.1 S.2.1 dX_perform_0 rfl (lv_at hl 1 rfl) ?_
  refine lv_tableIn (off := 329) (tgt := 330) S.1 S.2.1 dX_perform_1 (by decide +kernel) (by decide +kernel) (by decide +kernel) (by decide) ?_
  refine lv_aload_n S.1 S.2.1 dX_perform_330 rfl (lv_at hl 0 rfl) ?_
  refine cl_i (As := []) (rest := []) S hN hK hP hD hS hA hl.1 (c_X_clearBeforeMq l D a _ pc ac lk mq ma mb ir sw io dl ha rd sn md kf kb cn pf co ou ) k_X_203 (rc_X hK hP) ⟨by decide, by decide⟩ rfl rfl (Nat.le_of_ble_eq_true rfl) ⟨Nat.le_refl _, Nat.le_refl _⟩ dX_perform_331 (fun r u H locs hw hP hD hS => ?_)
  exact rt_i S hr hk hK hP hD hS (hw) dX_perform_334

set_option maxHeartbeats 4000000 in
set_option maxRecDepth 100000 in
theorem c_X_perform_31 (l : Launch) (D : va_G) (a : AX) (sz : Nat) (pc ac lk mq ma mb ir sw io dl ha rd sn md kf kb cn pf : Int32) (co ou : Nat → Int32) : MI l D (wx a) (tx a) sz yX_perform cX_perform 2 (some .int) 3 [.ref a.1, .int 31] (pc, ac, lk, mq, ma, mb, ir, sw, io, dl, ha, rd, sn, md, kf, kb, cn, pf, co, ou) (fun r u => (r, u) = mu31 (pc, ac, lk, mq, ma, mb, ir, sw, io, dl, ha, rd, sn, md, kf, kb, cn, pf, co, ou)) := by
  refine en_i RX rfl (by decide) (Nat.le_of_ble_eq_true rfl) ?_
  intro p e s m below meth c A ls S hr hk hA hN hK hP hD hS hl
  have hl : lv_has ls 2 [(0, .ref a.1), (1, .int 31)] := hl
  refine lv_iload_n S.1 S.2.1 dX_perform_0 rfl (lv_at hl 1 rfl) ?_
  refine lv_tableIn (off := 334) (tgt := 335) S.1 S.2.1 dX_perform_1 (by decide +kernel) (by decide +kernel) (by decide +kernel) (by decide) ?_
  refine lv_aload_n S.1 S.2.1 dX_perform_335 rfl (lv_at hl 0 rfl) ?_
  refine cl_i (As := []) (rest := []) S hN hK hP hD hS hA hl.1 (c_X_exchangeMq l D a _ pc ac lk mq ma mb ir sw io dl ha rd sn md kf kb cn pf co ou ) k_X_206 (rc_X hK hP) ⟨by decide, by decide⟩ rfl rfl (Nat.le_of_ble_eq_true rfl) ⟨Nat.le_refl _, Nat.le_refl _⟩ dX_perform_336 (fun r u H locs hw hP hD hS => ?_)
  exact rt_i S hr hk hK hP hD hS (hw) dX_perform_339

set_option maxHeartbeats 4000000 in
set_option maxRecDepth 100000 in
theorem c_X_perform_32 (l : Launch) (D : va_G) (a : AX) (sz : Nat) (pc ac lk mq ma mb ir sw io dl ha rd sn md kf kb cn pf : Int32) (co ou : Nat → Int32) : MI l D (wx a) (tx a) sz yX_perform cX_perform 2 (some .int) 3 [.ref a.1, .int 32] (pc, ac, lk, mq, ma, mb, ir, sw, io, dl, ha, rd, sn, md, kf, kb, cn, pf, co, ou) (fun r u => (r, u) = mu32 (pc, ac, lk, mq, ma, mb, ir, sw, io, dl, ha, rd, sn, md, kf, kb, cn, pf, co, ou)) := by
  refine en_i RX rfl (by decide) (Nat.le_of_ble_eq_true rfl) ?_
  intro p e s m below meth c A ls S hr hk hA hN hK hP hD hS hl
  have hl : lv_has ls 2 [(0, .ref a.1), (1, .int 32)] := hl
  refine lv_iload_n S.1 S.2.1 dX_perform_0 rfl (lv_at hl 1 rfl) ?_
  refine lv_tableIn (off := 339) (tgt := 340) S.1 S.2.1 dX_perform_1 (by decide +kernel) (by decide +kernel) (by decide +kernel) (by decide) ?_
  refine lv_aload_n S.1 S.2.1 dX_perform_340 rfl (lv_at hl 0 rfl) ?_
  refine cl_i (As := []) (rest := []) S hN hK hP hD hS hA hl.1 (c_X_chooseDevice l D a _ pc ac lk mq ma mb ir sw io dl ha rd sn md kf kb cn pf co ou ) k_X_209 (rc_X hK hP) ⟨by decide, by decide⟩ rfl rfl (Nat.le_of_ble_eq_true rfl) ⟨Nat.le_refl _, Nat.le_refl _⟩ dX_perform_341 (fun r u H locs hw hP hD hS => ?_)
  exact rt_i S hr hk hK hP hD hS (hw) dX_perform_344

set_option maxHeartbeats 4000000 in
set_option maxRecDepth 100000 in
theorem c_X_perform_33 (l : Launch) (D : va_G) (a : AX) (sz : Nat) (pc ac lk mq ma mb ir sw io dl ha rd sn md kf kb cn pf : Int32) (co ou : Nat → Int32) : MI l D (wx a) (tx a) sz yX_perform cX_perform 2 (some .int) 3 [.ref a.1, .int 33] (pc, ac, lk, mq, ma, mb, ir, sw, io, dl, ha, rd, sn, md, kf, kb, cn, pf, co, ou) (fun r u => (r, u) = mu33 (pc, ac, lk, mq, ma, mb, ir, sw, io, dl, ha, rd, sn, md, kf, kb, cn, pf, co, ou)) := by
  refine en_i RX rfl (by decide) (Nat.le_of_ble_eq_true rfl) ?_
  intro p e s m below meth c A ls S hr hk hA hN hK hP hD hS hl
  have hl : lv_has ls 2 [(0, .ref a.1), (1, .int 33)] := hl
  refine lv_iload_n S.1 S.2.1 dX_perform_0 rfl (lv_at hl 1 rfl) ?_
  refine lv_tableIn (off := 344) (tgt := 345) S.1 S.2.1 dX_perform_1 (by decide +kernel) (by decide +kernel) (by decide +kernel) (by decide) ?_
  refine lv_aload_n S.1 S.2.1 dX_perform_345 rfl (lv_at hl 0 rfl) ?_
  refine cl_i (As := []) (rest := []) S hN hK hP hD hS hA hl.1 (c_X_turnInterrupts l D a _ pc ac lk mq ma mb ir sw io dl ha rd sn md kf kb cn pf co ou ) k_X_212 (rc_X hK hP) ⟨by decide, by decide⟩ rfl rfl (Nat.le_of_ble_eq_true rfl) ⟨Nat.le_refl _, Nat.le_refl _⟩ dX_perform_346 (fun r u H locs hw hP hD hS => ?_)
  exact rt_i S hr hk hK hP hD hS (hw) dX_perform_349

set_option maxHeartbeats 4000000 in
set_option maxRecDepth 100000 in
theorem c_X_perform_34 (l : Launch) (D : va_G) (a : AX) (sz : Nat) (pc ac lk mq ma mb ir sw io dl ha rd sn md kf kb cn pf : Int32) (co ou : Nat → Int32) : MI l D (wx a) (tx a) sz yX_perform cX_perform 2 (some .int) 3 [.ref a.1, .int 34] (pc, ac, lk, mq, ma, mb, ir, sw, io, dl, ha, rd, sn, md, kf, kb, cn, pf, co, ou) (fun r u => (r, u) = mu34 (pc, ac, lk, mq, ma, mb, ir, sw, io, dl, ha, rd, sn, md, kf, kb, cn, pf, co, ou)) := by
  refine en_i RX rfl (by decide) (Nat.le_of_ble_eq_true rfl) ?_
  intro p e s m below meth c A ls S hr hk hA hN hK hP hD hS hl
  have hl : lv_has ls 2 [(0, .ref a.1), (1, .int 34)] := hl
  refine lv_iload_n S.1 S.2.1 dX_perform_0 rfl (lv_at hl 1 rfl) ?_
  refine lv_tableIn (off := 349) (tgt := 350) S.1 S.2.1 dX_perform_1 (by decide +kernel) (by decide +kernel) (by decide +kernel) (by decide) ?_
  refine lv_aload_n S.1 S.2.1 dX_perform_350 rfl (lv_at hl 0 rfl) ?_
  refine cl_i (As := []) (rest := []) S hN hK hP hD hS hA hl.1 (c_X_askKeyboard l D a _ pc ac lk mq ma mb ir sw io dl ha rd sn md kf kb cn pf co ou ) k_X_215 (rc_X hK hP) ⟨by decide, by decide⟩ rfl rfl (Nat.le_of_ble_eq_true rfl) ⟨Nat.le_refl _, Nat.le_refl _⟩ dX_perform_351 (fun r u H locs hw hP hD hS => ?_)
  exact rt_i S hr hk hK hP hD hS (hw) dX_perform_354

set_option maxHeartbeats 4000000 in
set_option maxRecDepth 100000 in
theorem c_X_perform_35 (l : Launch) (D : va_G) (a : AX) (sz : Nat) (pc ac lk mq ma mb ir sw io dl ha rd sn md kf kb cn pf : Int32) (co ou : Nat → Int32) : MI l D (wx a) (tx a) sz yX_perform cX_perform 2 (some .int) 3 [.ref a.1, .int 35] (pc, ac, lk, mq, ma, mb, ir, sw, io, dl, ha, rd, sn, md, kf, kb, cn, pf, co, ou) (fun r u => (r, u) = mu35 (pc, ac, lk, mq, ma, mb, ir, sw, io, dl, ha, rd, sn, md, kf, kb, cn, pf, co, ou)) := by
  refine en_i RX rfl (by decide) (Nat.le_of_ble_eq_true rfl) ?_
  intro p e s m below meth c A ls S hr hk hA hN hK hP hD hS hl
  have hl : lv_has ls 2 [(0, .ref a.1), (1, .int 35)] := hl
  refine lv_iload_n S.1 S.2.1 dX_perform_0 rfl (lv_at hl 1 rfl) ?_
  refine lv_tableIn (off := 354) (tgt := 355) S.1 S.2.1 dX_perform_1 (by decide +kernel) (by decide +kernel) (by decide +kernel) (by decide) ?_
  refine lv_aload_n S.1 S.2.1 dX_perform_355 rfl (lv_at hl 0 rfl) ?_
  refine cl_i (As := []) (rest := []) S hN hK hP hD hS hA hl.1 (c_X_readKeyboard l D a _ pc ac lk mq ma mb ir sw io dl ha rd sn md kf kb cn pf co ou ) k_X_218 (rc_X hK hP) ⟨by decide, by decide⟩ rfl rfl (Nat.le_of_ble_eq_true rfl) ⟨Nat.le_refl _, Nat.le_refl _⟩ dX_perform_356 (fun r u H locs hw hP hD hS => ?_)
  exact rt_i S hr hk hK hP hD hS (hw) dX_perform_359

set_option maxHeartbeats 4000000 in
set_option maxRecDepth 100000 in
theorem c_X_perform_36 (l : Launch) (D : va_G) (a : AX) (sz : Nat) (pc ac lk mq ma mb ir sw io dl ha rd sn md kf kb cn pf : Int32) (co ou : Nat → Int32) : MI l D (wx a) (tx a) sz yX_perform cX_perform 2 (some .int) 3 [.ref a.1, .int 36] (pc, ac, lk, mq, ma, mb, ir, sw, io, dl, ha, rd, sn, md, kf, kb, cn, pf, co, ou) (fun r u => (r, u) = mu36 (pc, ac, lk, mq, ma, mb, ir, sw, io, dl, ha, rd, sn, md, kf, kb, cn, pf, co, ou)) := by
  refine en_i RX rfl (by decide) (Nat.le_of_ble_eq_true rfl) ?_
  intro p e s m below meth c A ls S hr hk hA hN hK hP hD hS hl
  have hl : lv_has ls 2 [(0, .ref a.1), (1, .int 36)] := hl
  refine lv_iload_n S.1 S.2.1 dX_perform_0 rfl (lv_at hl 1 rfl) ?_
  refine lv_tableIn (off := 359) (tgt := 360) S.1 S.2.1 dX_perform_1 (by decide +kernel) (by decide +kernel) (by decide +kernel) (by decide) ?_
  refine lv_aload_n S.1 S.2.1 dX_perform_360 rfl (lv_at hl 0 rfl) ?_
  refine cl_i (As := []) (rest := []) S hN hK hP hD hS hA hl.1 (c_X_askPrinter l D a _ pc ac lk mq ma mb ir sw io dl ha rd sn md kf kb cn pf co ou ) k_X_221 (rc_X hK hP) ⟨by decide, by decide⟩ rfl rfl (Nat.le_of_ble_eq_true rfl) ⟨Nat.le_refl _, Nat.le_refl _⟩ dX_perform_361 (fun r u H locs hw hP hD hS => ?_)
  exact rt_i S hr hk hK hP hD hS (hw) dX_perform_364

set_option maxHeartbeats 4000000 in
set_option maxRecDepth 100000 in
theorem c_X_perform_37 (l : Launch) (D : va_G) (a : AX) (sz : Nat) (pc ac lk mq ma mb ir sw io dl ha rd sn md kf kb cn pf : Int32) (co ou : Nat → Int32) (hn : a.2.2.2.2.2.2.2 ≤ 100) (hcn : ∃ k : Nat, k ≤ a.2.2.2.2.2.2.2 ∧ cn = nI k) (h37 : cn < (nI a.2.2.2.2.2.2.2)) : MI l D (wx a) (tx a) sz yX_perform cX_perform 2 (some .int) 3 [.ref a.1, .int 37] (pc, ac, lk, mq, ma, mb, ir, sw, io, dl, ha, rd, sn, md, kf, kb, cn, pf, co, ou) (fun r u => (r, u) = mu37 (pc, ac, lk, mq, ma, mb, ir, sw, io, dl, ha, rd, sn, md, kf, kb, cn, pf, co, ou)) := by
  refine en_i RX rfl (by decide) (Nat.le_of_ble_eq_true rfl) ?_
  intro p e s m below meth c A ls S hr hk hA hN hK hP hD hS hl
  have hl : lv_has ls 2 [(0, .ref a.1), (1, .int 37)] := hl
  refine lv_iload_n S.1 S.2.1 dX_perform_0 rfl (lv_at hl 1 rfl) ?_
  refine lv_tableIn (off := 364) (tgt := 365) S.1 S.2.1 dX_perform_1 (by decide +kernel) (by decide +kernel) (by decide +kernel) (by decide) ?_
  refine lv_aload_n S.1 S.2.1 dX_perform_365 rfl (lv_at hl 0 rfl) ?_
  refine cl_i (As := []) (rest := []) S hN hK hP hD hS hA hl.1 (c_X_writePrinter l D a _ pc ac lk mq ma mb ir sw io dl ha rd sn md kf kb cn pf co ou hn hcn h37) k_X_224 (rc_X hK hP) ⟨by decide, by decide⟩ rfl rfl (Nat.le_of_ble_eq_true rfl) ⟨Nat.le_refl _, Nat.le_refl _⟩ dX_perform_366 (fun r u H locs hw hP hD hS => ?_)
  exact rt_i S hr hk hK hP hD hS (hw) dX_perform_369

set_option maxHeartbeats 4000000 in
set_option maxRecDepth 100000 in
theorem c_X_perform_40 (l : Launch) (D : va_G) (a : AX) (sz : Nat) (pc ac lk mq ma mb ir sw io dl ha rd sn md kf kb cn pf : Int32) (co ou : Nat → Int32) : MI l D (wx a) (tx a) sz yX_perform cX_perform 2 (some .int) 3 [.ref a.1, .int 40] (pc, ac, lk, mq, ma, mb, ir, sw, io, dl, ha, rd, sn, md, kf, kb, cn, pf, co, ou) (fun r u => (r, u) = mu40 (pc, ac, lk, mq, ma, mb, ir, sw, io, dl, ha, rd, sn, md, kf, kb, cn, pf, co, ou)) := by
  refine en_i RX rfl (by decide) (Nat.le_of_ble_eq_true rfl) ?_
  intro p e s m below meth c A ls S hr hk hA hN hK hP hD hS hl
  have hl : lv_has ls 2 [(0, .ref a.1), (1, .int 40)] := hl
  refine lv_iload_n S.1 S.2.1 dX_perform_0 rfl (lv_at hl 1 rfl) ?_
  refine lv_tableIn (off := 369) (tgt := 370) S.1 S.2.1 dX_perform_1 (by decide +kernel) (by decide +kernel) (by decide +kernel) (by decide) ?_
  refine lv_aload_n S.1 S.2.1 dX_perform_370 rfl (lv_at hl 0 rfl) ?_
  refine cl_i (As := []) (rest := []) S hN hK hP hD hS hA hl.1 (c_X_interrupt l D a _ pc ac lk mq ma mb ir sw io dl ha rd sn md kf kb cn pf co ou ) k_X_227 (rc_X hK hP) ⟨by decide, by decide⟩ rfl rfl (Nat.le_of_ble_eq_true rfl) ⟨Nat.le_refl _, Nat.le_refl _⟩ dX_perform_371 (fun r u H locs hw hP hD hS => ?_)
  exact rt_i S hr hk hK hP hD hS (hw) dX_perform_374

set_option maxHeartbeats 4000000 in
set_option maxRecDepth 100000 in
theorem c_X_perform_41 (l : Launch) (D : va_G) (a : AX) (sz : Nat) (pc ac lk mq ma mb ir sw io dl ha rd sn md kf kb cn pf : Int32) (co ou : Nat → Int32) : MI l D (wx a) (tx a) sz yX_perform cX_perform 2 (some .int) 3 [.ref a.1, .int 41] (pc, ac, lk, mq, ma, mb, ir, sw, io, dl, ha, rd, sn, md, kf, kb, cn, pf, co, ou) (fun r u => (r, u) = mu41 (pc, ac, lk, mq, ma, mb, ir, sw, io, dl, ha, rd, sn, md, kf, kb, cn, pf, co, ou)) := by
  refine en_i RX rfl (by decide) (Nat.le_of_ble_eq_true rfl) ?_
  intro p e s m below meth c A ls S hr hk hA hN hK hP hD hS hl
  have hl : lv_has ls 2 [(0, .ref a.1), (1, .int 41)] := hl
  refine lv_iload_n S.1 S.2.1 dX_perform_0 rfl (lv_at hl 1 rfl) ?_
  refine lv_tableIn (off := 374) (tgt := 375) S.1 S.2.1 dX_perform_1 (by decide +kernel) (by decide +kernel) (by decide +kernel) (by decide) ?_
  refine lv_aload_n S.1 S.2.1 dX_perform_375 rfl (lv_at hl 0 rfl) ?_
  refine cl_i (As := []) (rest := []) S hN hK hP hD hS hA hl.1 (c_X_storeAndGoBehind l D a _ pc ac lk mq ma mb ir sw io dl ha rd sn md kf kb cn pf co ou ) k_X_161 (rc_X hK hP) ⟨by decide, by decide⟩ rfl rfl (Nat.le_of_ble_eq_true rfl) ⟨Nat.le_refl _, Nat.le_refl _⟩ dX_perform_376 (fun r u H locs hw hP hD hS => ?_)
  exact rt_i S hr hk hK hP hD hS (hw) dX_perform_379
