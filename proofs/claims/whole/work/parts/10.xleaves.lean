set_option maxHeartbeats 4000000 in
set_option maxRecDepth 100000 in
theorem c_X_irHas (l : Launch) (D : va_G) (a : AX) (sz : Nat) (pc ac lk mq ma mb ir sw io dl ha rd sn md kf kb cn pf : Int32) (co ou : Nat → Int32) (b : Int32) : MI l D (wx a) (tx a) sz yX_irHas cX_irHas 2 (some .boolean) 0 [.ref a.1, .int b] (pc, ac, lk, mq, ma, mb, ir, sw, io, dl, ha, rd, sn, md, kf, kb, cn, pf, co, ou) (fun r u => (((ir &&& b) = 0) ∧ r = 0 ∧ u = (pc, ac, lk, mq, ma, mb, ir, sw, io, dl, ha, rd, sn, md, kf, kb, cn, pf, co, ou)) ∨ ((¬ (ir &&& b) = 0) ∧ r = 1 ∧ u = (pc, ac, lk, mq, ma, mb, ir, sw, io, dl, ha, rd, sn, md, kf, kb, cn, pf, co, ou))) := by
  refine en_i RX rfl (by decide) (Nat.le_of_ble_eq_true rfl) ?_
  intro p e s m below meth c A ls S hr hk hA hN hK hP hD hS hl
  have hl : lv_has ls 2 [(0, .ref a.1), (1, .int b)] := hl
  refine lv_aload_n S.1 S.2.1 dX_irHas_0 rfl (lv_at hl 0 rfl) ?_
  refine g_X_X_ir S hK hP dX_irHas_1 ?_
  refine lv_iload_n S.1 S.2.1 dX_irHas_4 rfl (lv_at hl 1 rfl) ?_
  refine lv_iand S.1 S.2.1 dX_irHas_5 ?_
  refine lv_if_eq (tgt := 13) S.1 S.2.1 dX_irHas_6 (by decide) (fun g1 => ?_) (fun g1 => ?_)
  · refine lv_iconst (v := 0) S.1 S.2.1 dX_irHas_13 (by decide) ?_
    exact rt_z S hr hk hK hP hD hS rfl (Or.inl (⟨g1, rfl, rfl⟩)) dX_irHas_14
  · refine lv_iconst (v := 1) S.1 S.2.1 dX_irHas_9 (by decide) ?_
    refine lv_goto (tgt := 14) S.1 S.2.1 dX_irHas_10 (by decide) ?_
    exact rt_z S hr hk hK hP hD hS rfl (Or.inr (⟨g1, rfl, rfl⟩)) dX_irHas_14

set_option maxHeartbeats 4000000 in
set_option maxRecDepth 100000 in
theorem c_X_isAddress (l : Launch) (D : va_G) (a : AX) (sz : Nat) (pc ac lk mq ma mb ir sw io dl ha rd sn md kf kb cn pf : Int32) (co ou : Nat → Int32) (x : Int32) : MI l D (wx a) (tx a) sz yX_isAddress cX_isAddress 1 (some .boolean) 0 [.int x] (pc, ac, lk, mq, ma, mb, ir, sw, io, dl, ha, rd, sn, md, kf, kb, cn, pf, co, ou) (fun r u => ((x < 0) ∧ r = 0 ∧ u = (pc, ac, lk, mq, ma, mb, ir, sw, io, dl, ha, rd, sn, md, kf, kb, cn, pf, co, ou)) ∨ ((¬ x < 0) ∧ (4096 ≤ x) ∧ r = 0 ∧ u = (pc, ac, lk, mq, ma, mb, ir, sw, io, dl, ha, rd, sn, md, kf, kb, cn, pf, co, ou)) ∨ ((¬ x < 0) ∧ (¬ 4096 ≤ x) ∧ r = 1 ∧ u = (pc, ac, lk, mq, ma, mb, ir, sw, io, dl, ha, rd, sn, md, kf, kb, cn, pf, co, ou))) := by
  refine en_i RX rfl (by decide) (Nat.le_of_ble_eq_true rfl) ?_
  intro p e s m below meth c A ls S hr hk hA hN hK hP hD hS hl
  have hl : lv_has ls 1 [(0, .int x)] := hl
  refine lv_iload_n S.1 S.2.1 dX_isAddress_0 rfl (lv_at hl 0 rfl) ?_
  refine lv_if_lt (tgt := 15) S.1 S.2.1 dX_isAddress_1 (by decide) (fun g1 => ?_) (fun g1 => ?_)
  · refine lv_iconst (v := 0) S.1 S.2.1 dX_isAddress_15 (by decide) ?_
    exact rt_z S hr hk hK hP hD hS rfl (Or.inl (⟨g1, rfl, rfl⟩)) dX_isAddress_16
  · refine lv_iload_n S.1 S.2.1 dX_isAddress_4 rfl (lv_at hl 0 rfl) ?_
    refine lv_sipush (v := 4096) S.1 S.2.1 dX_isAddress_5 (by decide) ?_
    refine lv_icmp_ge (tgt := 15) S.1 S.2.1 dX_isAddress_8 (by decide) (fun g2 => ?_) (fun g2 => ?_)
    · refine lv_iconst (v := 0) S.1 S.2.1 dX_isAddress_15 (by decide) ?_
      exact rt_z S hr hk hK hP hD hS rfl (Or.inr (Or.inl (⟨g1, g2, rfl, rfl⟩))) dX_isAddress_16
    · refine lv_iconst (v := 1) S.1 S.2.1 dX_isAddress_11 (by decide) ?_
      refine lv_goto (tgt := 16) S.1 S.2.1 dX_isAddress_12 (by decide) ?_
      exact rt_z S hr hk hK hP hD hS rfl (Or.inr (Or.inr (⟨g1, g2, rfl, rfl⟩))) dX_isAddress_16

set_option maxHeartbeats 4000000 in
set_option maxRecDepth 100000 in
theorem c_X_read (l : Launch) (D : va_G) (a : AX) (sz : Nat) (pc ac lk mq ma mb ir sw io dl ha rd sn md kf kb cn pf : Int32) (co ou : Nat → Int32) (x : Int32) : MI l D (wx a) (tx a) sz yX_read cX_read 2 (some .int) 0 [.ref a.1, .int x] (pc, ac, lk, mq, ma, mb, ir, sw, io, dl, ha, rd, sn, md, kf, kb, cn, pf, co, ou) (fun r u => r = (co (x &&& 4095).toNatClampNeg) ∧ u = (pc, ac, lk, mq, ma, mb, ir, sw, io, dl, ha, rd, sn, md, kf, kb, cn, pf, co, ou)) := by
  refine en_i RX rfl (by decide) (Nat.le_of_ble_eq_true rfl) ?_
  intro p e s m below meth c A ls S hr hk hA hN hK hP hD hS hl
  have hl : lv_has ls 2 [(0, .ref a.1), (1, .int x)] := hl
  refine lv_aload_n S.1 S.2.1 dX_read_0 rfl (lv_at hl 0 rfl) ?_
  refine g_X_X_core S hK hP dX_read_1 ?_
  refine lv_iload_n S.1 S.2.1 dX_read_4 rfl (lv_at hl 1 rfl) ?_
  refine lv_sipush (v := 4095) S.1 S.2.1 dX_read_5 (by decide) ?_
  refine lv_iand S.1 S.2.1 dX_read_8 ?_
  refine ld_xco S hK hP (in_4096 _) dX_read_9 ?_
  exact rt_i S hr hk hK hP hD hS (⟨rfl, rfl⟩) dX_read_10

set_option maxHeartbeats 4000000 in
set_option maxRecDepth 100000 in
theorem c_X_write (l : Launch) (D : va_G) (a : AX) (sz : Nat) (pc ac lk mq ma mb ir sw io dl ha rd sn md kf kb cn pf : Int32) (co ou : Nat → Int32) (x v : Int32) : MV l D (wx a) (tx a) sz yX_write cX_write 3 0 [.ref a.1, .int x, .int v] (pc, ac, lk, mq, ma, mb, ir, sw, io, dl, ha, rd, sn, md, kf, kb, cn, pf, co, ou) (fun u => u = (pc, ac, lk, mq, ma, mb, ir, sw, io, dl, ha, rd, sn, md, kf, kb, cn, pf, (upd co (x &&& 4095).toNatClampNeg (v &&& 4095)), ou)) := by
  refine en_v RX rfl (by decide) (Nat.le_of_ble_eq_true rfl) ?_
  intro p e s m below meth c A ls S hr hk hA hN hK hP hD hS hl
  have hl : lv_has ls 3 [(0, .ref a.1), (1, .int x), (2, .int v)] := hl
  refine lv_aload_n S.1 S.2.1 dX_write_0 rfl (lv_at hl 0 rfl) ?_
  refine g_X_X_core S hK hP dX_write_1 ?_
  refine lv_iload_n S.1 S.2.1 dX_write_4 rfl (lv_at hl 1 rfl) ?_
  refine lv_sipush (v := 4095) S.1 S.2.1 dX_write_5 (by decide) ?_
  refine lv_iand S.1 S.2.1 dX_write_8 ?_
  refine lv_iload_n S.1 S.2.1 dX_write_9 rfl (lv_at hl 2 rfl) ?_
  refine lv_sipush (v := 4095) S.1 S.2.1 dX_write_10 (by decide) ?_
  refine lv_iand S.1 S.2.1 dX_write_13 ?_
  refine st_xco S hK hP hD hS (in_4096 _) dX_write_14 (fun H locs hP hD hS => ?_)
  exact rt_v S hr hk hK hP hD hS (rfl) dX_write_15

set_option maxHeartbeats 4000000 in
set_option maxRecDepth 100000 in
theorem c_X_advancePc (l : Launch) (D : va_G) (a : AX) (sz : Nat) (pc ac lk mq ma mb ir sw io dl ha rd sn md kf kb cn pf : Int32) (co ou : Nat → Int32) : MV l D (wx a) (tx a) sz yX_advancePc cX_advancePc 1 0 [.ref a.1] (pc, ac, lk, mq, ma, mb, ir, sw, io, dl, ha, rd, sn, md, kf, kb, cn, pf, co, ou) (fun u => u = (((pc + 1) &&& 4095), ac, lk, mq, ma, mb, ir, sw, io, dl, ha, rd, sn, md, kf, kb, cn, pf, co, ou)) := by
  refine en_v RX rfl (by decide) (Nat.le_of_ble_eq_true rfl) ?_
  intro p e s m below meth c A ls S hr hk hA hN hK hP hD hS hl
  have hl : lv_has ls 1 [(0, .ref a.1)] := hl
  refine lv_aload_n S.1 S.2.1 dX_advancePc_0 rfl (lv_at hl 0 rfl) ?_
  refine lv_aload_n S.1 S.2.1 dX_advancePc_1 rfl (lv_at hl 0 rfl) ?_
  refine g_X_X_pc S hK hP dX_advancePc_2 ?_
  refine lv_iconst (v := 1) S.1 S.2.1 dX_advancePc_5 (by decide) ?_
  refine lv_iadd S.1 S.2.1 dX_advancePc_6 ?_
  refine lv_sipush (v := 4095) S.1 S.2.1 dX_advancePc_7 (by decide) ?_
  refine lv_iand S.1 S.2.1 dX_advancePc_10 ?_
  refine p_X_X_pc S hK hP hD hS dX_advancePc_11 (fun H locs hP hD hS => ?_)
  exact rt_v S hr hk hK hP hD hS (rfl) dX_advancePc_14

set_option maxHeartbeats 4000000 in
set_option maxRecDepth 100000 in
theorem c_X_firstOfInstruction (l : Launch) (D : va_G) (a : AX) (sz : Nat) (pc ac lk mq ma mb ir sw io dl ha rd sn md kf kb cn pf : Int32) (co ou : Nat → Int32) : MI l D (wx a) (tx a) sz yX_firstOfInstruction cX_firstOfInstruction 1 (some .int) 0 [.ref a.1] (pc, ac, lk, mq, ma, mb, ir, sw, io, dl, ha, rd, sn, md, kf, kb, cn, pf, co, ou) (fun r u => r = (8 + (ir / 512)) ∧ u = (pc, ac, lk, mq, ma, mb, ir, sw, io, dl, ha, rd, sn, md, kf, kb, cn, pf, co, ou)) := by
  refine en_i RX rfl (by decide) (Nat.le_of_ble_eq_true rfl) ?_
  intro p e s m below meth c A ls S hr hk hA hN hK hP hD hS hl
  have hl : lv_has ls 1 [(0, .ref a.1)] := hl
  refine lv_bipush (v := 8) S.1 S.2.1 dX_firstOfInstruction_0 (by decide) ?_
  refine lv_aload_n S.1 S.2.1 dX_firstOfInstruction_2 rfl (lv_at hl 0 rfl) ?_
  refine g_X_X_ir S hK hP dX_firstOfInstruction_3 ?_
  refine lv_sipush (v := 512) S.1 S.2.1 dX_firstOfInstruction_6 (by decide) ?_
  refine lv_idiv S.1 S.2.1 dX_firstOfInstruction_9 (by decide) ?_
  refine lv_iadd S.1 S.2.1 dX_firstOfInstruction_10 ?_
  exact rt_i S hr hk hK hP hD hS (⟨rfl, rfl⟩) dX_firstOfInstruction_11

set_option maxHeartbeats 4000000 in
set_option maxRecDepth 100000 in
theorem c_X_turnLinkOver (l : Launch) (D : va_G) (a : AX) (sz : Nat) (pc ac lk mq ma mb ir sw io dl ha rd sn md kf kb cn pf : Int32) (co ou : Nat → Int32) : MV l D (wx a) (tx a) sz yX_turnLinkOver cX_turnLinkOver 1 0 [.ref a.1] (pc, ac, lk, mq, ma, mb, ir, sw, io, dl, ha, rd, sn, md, kf, kb, cn, pf, co, ou) (fun u => u = (pc, ac, (1 - lk), mq, ma, mb, ir, sw, io, dl, ha, rd, sn, md, kf, kb, cn, pf, co, ou)) := by
  refine en_v RX rfl (by decide) (Nat.le_of_ble_eq_true rfl) ?_
  intro p e s m below meth c A ls S hr hk hA hN hK hP hD hS hl
  have hl : lv_has ls 1 [(0, .ref a.1)] := hl
  refine lv_aload_n S.1 S.2.1 dX_turnLinkOver_0 rfl (lv_at hl 0 rfl) ?_
  refine lv_iconst (v := 1) S.1 S.2.1 dX_turnLinkOver_1 (by decide) ?_
  refine lv_aload_n S.1 S.2.1 dX_turnLinkOver_2 rfl (lv_at hl 0 rfl) ?_
  refine g_X_X_link S hK hP dX_turnLinkOver_3 ?_
  refine lv_isub S.1 S.2.1 dX_turnLinkOver_6 ?_
  refine p_X_X_link S hK hP hD hS dX_turnLinkOver_7 (fun H locs hP hD hS => ?_)
  exact rt_v S hr hk hK hP hD hS (rfl) dX_turnLinkOver_10

set_option maxHeartbeats 4000000 in
set_option maxRecDepth 100000 in
theorem c_X_clearAcIfAsked (l : Launch) (D : va_G) (a : AX) (sz : Nat) (pc ac lk mq ma mb ir sw io dl ha rd sn md kf kb cn pf : Int32) (co ou : Nat → Int32) : MV l D (wx a) (tx a) sz yX_clearAcIfAsked cX_clearAcIfAsked 1 1 [.ref a.1] (pc, ac, lk, mq, ma, mb, ir, sw, io, dl, ha, rd, sn, md, kf, kb, cn, pf, co, ou) (fun u => (((ir &&& 128) = 0) ∧ u = (pc, ac, lk, mq, ma, mb, ir, sw, io, dl, ha, rd, sn, md, kf, kb, cn, pf, co, ou)) ∨ ((¬ (ir &&& 128) = 0) ∧ u = (pc, 0, lk, mq, ma, mb, ir, sw, io, dl, ha, rd, sn, md, kf, kb, cn, pf, co, ou))) := by
  refine en_v RX rfl (by decide) (Nat.le_of_ble_eq_true rfl) ?_
  intro p e s m below meth c A ls S hr hk hA hN hK hP hD hS hl
  have hl : lv_has ls 1 [(0, .ref a.1)] := hl
  refine lv_aload_n S.1 S.2.1 dX_clearAcIfAsked_0 rfl (lv_at hl 0 rfl) ?_
  refine lv_sipush (v := 128) S.1 S.2.1 dX_clearAcIfAsked_1 (by decide) ?_
  refine cl_i (As := [.int 128]) (rest := []) S hN hK hP hD hS hA hl.1 (c_X_irHas l D a _ pc ac lk mq ma mb ir sw io dl ha rd sn md kf kb cn pf co ou 128) k_X_233 (rc_X hK hP) ⟨by decide, by decide⟩ rfl rfl (Nat.le_of_ble_eq_true rfl) ⟨Nat.le_refl _, Nat.le_refl _⟩ dX_clearAcIfAsked_4 (fun r u H locs hw hP hD hS => ?_)
  obtain ⟨g1, rfl, rfl⟩ | ⟨g2, rfl, rfl⟩ := hw
  · refine lv_if_eq (tgt := 15) S.1 S.2.1 dX_clearAcIfAsked_7 (by decide) (fun _ => ?_) (fun g3 => absurd (by decide) g3)
    exact rt_v S hr hk hK hP hD hS (Or.inl (⟨g1, rfl⟩)) dX_clearAcIfAsked_15
  · refine lv_if_eq (tgt := 15) S.1 S.2.1 dX_clearAcIfAsked_7 (by decide) (fun g4 => absurd g4 (by decide)) (fun _ => ?_)
    refine lv_aload_n S.1 S.2.1 dX_clearAcIfAsked_10 rfl (lv_at hl 0 rfl) ?_
    refine lv_iconst (v := 0) S.1 S.2.1 dX_clearAcIfAsked_11 (by decide) ?_
    refine p_X_X_ac S hK hP hD hS dX_clearAcIfAsked_12 (fun H locs hP hD hS => ?_)
    exact rt_v S hr hk hK hP hD hS (Or.inr (⟨g2, rfl⟩)) dX_clearAcIfAsked_15

set_option maxHeartbeats 4000000 in
set_option maxRecDepth 100000 in
theorem c_X_addToAc (l : Launch) (D : va_G) (a : AX) (sz : Nat) (pc ac lk mq ma mb ir sw io dl ha rd sn md kf kb cn pf : Int32) (co ou : Nat → Int32) (v : Int32) : MV l D (wx a) (tx a) sz yX_addToAc cX_addToAc 3 1 [.ref a.1, .int v] (pc, ac, lk, mq, ma, mb, ir, sw, io, dl, ha, rd, sn, md, kf, kb, cn, pf, co, ou) (fun u => (((ac + v) ≤ 4095) ∧ u = (pc, ((ac + v) &&& 4095), lk, mq, ma, mb, ir, sw, io, dl, ha, rd, sn, md, kf, kb, cn, pf, co, ou)) ∨ ((¬ (ac + v) ≤ 4095) ∧ u = (pc, ((ac + v) &&& 4095), (1 - lk), mq, ma, mb, ir, sw, io, dl, ha, rd, sn, md, kf, kb, cn, pf, co, ou))) := by
  refine en_v RX rfl (by decide) (Nat.le_of_ble_eq_true rfl) ?_
  intro p e s m below meth c A ls S hr hk hA hN hK hP hD hS hl
  have hl : lv_has ls 3 [(0, .ref a.1), (1, .int v)] := hl
  refine lv_aload_n S.1 S.2.1 dX_addToAc_0 rfl (lv_at hl 0 rfl) ?_
  refine g_X_X_ac S hK hP dX_addToAc_1 ?_
  refine lv_iload_n S.1 S.2.1 dX_addToAc_4 rfl (lv_at hl 1 rfl) ?_
  refine lv_iadd S.1 S.2.1 dX_addToAc_5 ?_
  refine lv_istore_n S.1 S.2.1 dX_addToAc_6 rfl hl (by decide) rfl (fun ls hl => ?_)
  have hl : lv_has ls 3 [(2, .int (ac + v)), (0, .ref a.1), (1, .int v)] := hl
  refine lv_iload_n S.1 S.2.1 dX_addToAc_7 rfl (lv_at hl 0 rfl) ?_
  refine lv_sipush (v := 4095) S.1 S.2.1 dX_addToAc_8 (by decide) ?_
  refine lv_icmp_le (tgt := 18) S.1 S.2.1 dX_addToAc_11 (by decide) (fun g1 => ?_) (fun g1 => ?_)
  · refine lv_aload_n S.1 S.2.1 dX_addToAc_18 rfl (lv_at hl 1 rfl) ?_
    refine lv_iload_n S.1 S.2.1 dX_addToAc_19 rfl (lv_at hl 0 rfl) ?_
    refine lv_sipush (v := 4095) S.1 S.2.1 dX_addToAc_20 (by decide) ?_
    refine lv_iand S.1 S.2.1 dX_addToAc_23 ?_
    refine p_X_X_ac S hK hP hD hS dX_addToAc_24 (fun H locs hP hD hS => ?_)
    exact rt_v S hr hk hK hP hD hS (Or.inl (⟨g1, rfl⟩)) dX_addToAc_27
  · refine lv_aload_n S.1 S.2.1 dX_addToAc_14 rfl (lv_at hl 1 rfl) ?_
    refine cl_v (As := []) (rest := []) S hN hK hP hD hS hA hl.1 (c_X_turnLinkOver l D a _ pc ac lk mq ma mb ir sw io dl ha rd sn md kf kb cn pf co ou ) k_X_242 (rc_X hK hP) ⟨by decide, by decide⟩ rfl rfl (Nat.le_of_ble_eq_true rfl) ⟨Nat.le_refl _, Nat.le_refl _⟩ dX_addToAc_15 (fun u H locs hw hP hD hS => ?_)
    obtain rfl := hw
    refine lv_aload_n S.1 S.2.1 dX_addToAc_18 rfl (lv_at hl 1 rfl) ?_
    refine lv_iload_n S.1 S.2.1 dX_addToAc_19 rfl (lv_at hl 0 rfl) ?_
    refine lv_sipush (v := 4095) S.1 S.2.1 dX_addToAc_20 (by decide) ?_
    refine lv_iand S.1 S.2.1 dX_addToAc_23 ?_
    refine p_X_X_ac S hK hP hD hS dX_addToAc_24 (fun H locs hP hD hS => ?_)
    exact rt_v S hr hk hK hP hD hS (Or.inr (⟨g1, rfl⟩)) dX_addToAc_27

set_option maxHeartbeats 4000000 in
set_option maxRecDepth 100000 in
theorem c_X_rotate (l : Launch) (D : va_G) (a : AX) (sz : Nat) (pc ac lk mq ma mb ir sw io dl ha rd sn md kf kb cn pf : Int32) (co ou : Nat → Int32) : MV l D (wx a) (tx a) sz yX_rotate cX_rotate 2 1 [.ref a.1] (pc, ac, lk, mq, ma, mb, ir, sw, io, dl, ha, rd, sn, md, kf, kb, cn, pf, co, ou) (fun u => (((ir &&& 8) = 0) ∧ ((ir &&& 4) = 0) ∧ u = (pc, (((lk <<< ((12 : Int32) &&& 31)) ||| ac) &&& 4095), (((lk <<< ((12 : Int32) &&& 31)) ||| ac) >>> ((12 : Int32) &&& 31)), mq, ma, mb, ir, sw, io, dl, ha, rd, sn, md, kf, kb, cn, pf, co, ou)) ∨ (((ir &&& 8) = 0) ∧ (¬ (ir &&& 4) = 0) ∧ u = (pc, ((((((lk <<< ((12 : Int32) &&& 31)) ||| ac) <<< ((1 : Int32) &&& 31)) ||| (((lk <<< ((12 : Int32) &&& 31)) ||| ac) >>> ((12 : Int32) &&& 31))) &&& 8191) &&& 4095), ((((((lk <<< ((12 : Int32) &&& 31)) ||| ac) <<< ((1 : Int32) &&& 31)) ||| (((lk <<< ((12 : Int32) &&& 31)) ||| ac) >>> ((12 : Int32) &&& 31))) &&& 8191) >>> ((12 : Int32) &&& 31)), mq, ma, mb, ir, sw, io, dl, ha, rd, sn, md, kf, kb, cn, pf, co, ou)) ∨ ((¬ (ir &&& 8) = 0) ∧ ((ir &&& 4) = 0) ∧ u = (pc, (((((lk <<< ((12 : Int32) &&& 31)) ||| ac) >>> ((1 : Int32) &&& 31)) ||| ((((lk <<< ((12 : Int32) &&& 31)) ||| ac) &&& 1) <<< ((12 : Int32) &&& 31))) &&& 4095), (((((lk <<< ((12 : Int32) &&& 31)) ||| ac) >>> ((1 : Int32) &&& 31)) ||| ((((lk <<< ((12 : Int32) &&& 31)) ||| ac) &&& 1) <<< ((12 : Int32) &&& 31))) >>> ((12 : Int32) &&& 31)), mq, ma, mb, ir, sw, io, dl, ha, rd, sn, md, kf, kb, cn, pf, co, ou)) ∨ ((¬ (ir &&& 8) = 0) ∧ (¬ (ir &&& 4) = 0) ∧ u = (pc, ((((((((lk <<< ((12 : Int32) &&& 31)) ||| ac) >>> ((1 : Int32) &&& 31)) ||| ((((lk <<< ((12 : Int32) &&& 31)) ||| ac) &&& 1) <<< ((12 : Int32) &&& 31))) <<< ((1 : Int32) &&& 31)) ||| (((((lk <<< ((12 : Int32) &&& 31)) ||| ac) >>> ((1 : Int32) &&& 31)) ||| ((((lk <<< ((12 : Int32) &&& 31)) ||| ac) &&& 1) <<< ((12 : Int32) &&& 31))) >>> ((12 : Int32) &&& 31))) &&& 8191) &&& 4095), ((((((((lk <<< ((12 : Int32) &&& 31)) ||| ac) >>> ((1 : Int32) &&& 31)) ||| ((((lk <<< ((12 : Int32) &&& 31)) ||| ac) &&& 1) <<< ((12 : Int32) &&& 31))) <<< ((1 : Int32) &&& 31)) ||| (((((lk <<< ((12 : Int32) &&& 31)) ||| ac) >>> ((1 : Int32) &&& 31)) ||| ((((lk <<< ((12 : Int32) &&& 31)) ||| ac) &&& 1) <<< ((12 : Int32) &&& 31))) >>> ((12 : Int32) &&& 31))) &&& 8191) >>> ((12 : Int32) &&& 31)), mq, ma, mb, ir, sw, io, dl, ha, rd, sn, md, kf, kb, cn, pf, co, ou))) := by
  refine en_v RX rfl (by decide) (Nat.le_of_ble_eq_true rfl) ?_
  intro p e s m below meth c A ls S hr hk hA hN hK hP hD hS hl
  have hl : lv_has ls 2 [(0, .ref a.1)] := hl
  refine lv_aload_n S.1 S.2.1 dX_rotate_0 rfl (lv_at hl 0 rfl) ?_
  refine g_X_X_link S hK hP dX_rotate_1 ?_
  refine lv_bipush (v := 12) S.1 S.2.1 dX_rotate_4 (by decide) ?_
  refine lv_ishl S.1 S.2.1 dX_rotate_6 ?_
  refine lv_aload_n S.1 S.2.1 dX_rotate_7 rfl (lv_at hl 0 rfl) ?_
  refine g_X_X_ac S hK hP dX_rotate_8 ?_
  refine lv_ior S.1 S.2.1 dX_rotate_11 ?_
  refine lv_istore_n S.1 S.2.1 dX_rotate_12 rfl hl (by decide) rfl (fun ls hl => ?_)
  have hl : lv_has ls 2 [(1, .int ((lk <<< ((12 : Int32) &&& 31)) ||| ac)), (0, .ref a.1)] := hl
  refine lv_aload_n S.1 S.2.1 dX_rotate_13 rfl (lv_at hl 1 rfl) ?_
  refine lv_bipush (v := 8) S.1 S.2.1 dX_rotate_14 (by decide) ?_
  refine cl_i (As := [.int 8]) (rest := []) S hN hK hP hD hS hA hl.1 (c_X_irHas l D a _ pc ac lk mq ma mb ir sw io dl ha rd sn md kf kb cn pf co ou 8) k_X_233 (rc_X hK hP) ⟨by decide, by decide⟩ rfl rfl (Nat.le_of_ble_eq_true rfl) ⟨Nat.le_refl _, Nat.le_refl _⟩ dX_rotate_16 (fun r u H locs hw hP hD hS => ?_)
  obtain ⟨g1, rfl, rfl⟩ | ⟨g2, rfl, rfl⟩ := hw
  · refine lv_if_eq (tgt := 33) S.1 S.2.1 dX_rotate_19 (by decide) (fun _ => ?_) (fun g3 => absurd (by decide) g3)
    refine lv_aload_n S.1 S.2.1 dX_rotate_33 rfl (lv_at hl 1 rfl) ?_
    refine lv_iconst (v := 4) S.1 S.2.1 dX_rotate_34 (by decide) ?_
    refine cl_i (As := [.int 4]) (rest := []) S hN hK hP hD hS hA hl.1 (c_X_irHas l D a _ pc ac lk mq ma mb ir sw io dl ha rd sn md kf kb cn pf co ou 4) k_X_233 (rc_X hK hP) ⟨by decide, by decide⟩ rfl rfl (Nat.le_of_ble_eq_true rfl) ⟨Nat.le_refl _, Nat.le_refl _⟩ dX_rotate_35 (fun r u H locs hw hP hD hS => ?_)
    obtain ⟨g4, rfl, rfl⟩ | ⟨g5, rfl, rfl⟩ := hw
    · refine lv_if_eq (tgt := 54) S.1 S.2.1 dX_rotate_38 (by decide) (fun _ => ?_) (fun g6 => absurd (by decide) g6)
      refine lv_aload_n S.1 S.2.1 dX_rotate_54 rfl (lv_at hl 1 rfl) ?_
      refine lv_iload_n S.1 S.2.1 dX_rotate_55 rfl (lv_at hl 0 rfl) ?_
      refine lv_bipush (v := 12) S.1 S.2.1 dX_rotate_56 (by decide) ?_
      refine lv_ishr S.1 S.2.1 dX_rotate_58 ?_
      refine p_X_X_link S hK hP hD hS dX_rotate_59 (fun H locs hP hD hS => ?_)
      refine lv_aload_n S.1 S.2.1 dX_rotate_62 rfl (lv_at hl 1 rfl) ?_
      refine lv_iload_n S.1 S.2.1 dX_rotate_63 rfl (lv_at hl 0 rfl) ?_
      refine lv_sipush (v := 4095) S.1 S.2.1 dX_rotate_64 (by decide) ?_
      refine lv_iand S.1 S.2.1 dX_rotate_67 ?_
      refine p_X_X_ac S hK hP hD hS dX_rotate_68 (fun H locs hP hD hS => ?_)
      exact rt_v S hr hk hK hP hD hS (Or.inl (⟨g1, g4, rfl⟩)) dX_rotate_71
    · refine lv_if_eq (tgt := 54) S.1 S.2.1 dX_rotate_38 (by decide) (fun g7 => absurd g7 (by decide)) (fun _ => ?_)
      refine lv_iload_n S.1 S.2.1 dX_rotate_41 rfl (lv_at hl 0 rfl) ?_
      refine lv_iconst (v := 1) S.1 S.2.1 dX_rotate_42 (by decide) ?_
      refine lv_ishl S.1 S.2.1 dX_rotate_43 ?_
      refine lv_iload_n S.1 S.2.1 dX_rotate_44 rfl (lv_at hl 0 rfl) ?_
      refine lv_bipush (v := 12) S.1 S.2.1 dX_rotate_45 (by decide) ?_
      refine lv_ishr S.1 S.2.1 dX_rotate_47 ?_
      refine lv_ior S.1 S.2.1 dX_rotate_48 ?_
      refine lv_sipush (v := 8191) S.1 S.2.1 dX_rotate_49 (by decide) ?_
      refine lv_iand S.1 S.2.1 dX_rotate_52 ?_
      refine lv_istore_n S.1 S.2.1 dX_rotate_53 rfl hl (by decide) rfl (fun ls hl => ?_)
      have hl : lv_has ls 2 [(1, .int (((((lk <<< ((12 : Int32) &&& 31)) ||| ac) <<< ((1 : Int32) &&& 31)) ||| (((lk <<< ((12 : Int32) &&& 31)) ||| ac) >>> ((12 : Int32) &&& 31))) &&& 8191)), (0, .ref a.1)] := hl
      refine lv_aload_n S.1 S.2.1 dX_rotate_54 rfl (lv_at hl 1 rfl) ?_
      refine lv_iload_n S.1 S.2.1 dX_rotate_55 rfl (lv_at hl 0 rfl) ?_
      refine lv_bipush (v := 12) S.1 S.2.1 dX_rotate_56 (by decide) ?_
      refine lv_ishr S.1 S.2.1 dX_rotate_58 ?_
      refine p_X_X_link S hK hP hD hS dX_rotate_59 (fun H locs hP hD hS => ?_)
      refine lv_aload_n S.1 S.2.1 dX_rotate_62 rfl (lv_at hl 1 rfl) ?_
      refine lv_iload_n S.1 S.2.1 dX_rotate_63 rfl (lv_at hl 0 rfl) ?_
      refine lv_sipush (v := 4095) S.1 S.2.1 dX_rotate_64 (by decide) ?_
      refine lv_iand S.1 S.2.1 dX_rotate_67 ?_
      refine p_X_X_ac S hK hP hD hS dX_rotate_68 (fun H locs hP hD hS => ?_)
      exact rt_v S hr hk hK hP hD hS (Or.inr (Or.inl (⟨g1, g5, rfl⟩))) dX_rotate_71
  · refine lv_if_eq (tgt := 33) S.1 S.2.1 dX_rotate_19 (by decide) (fun g8 => absurd g8 (by decide)) (fun _ => ?_)
    refine lv_iload_n S.1 S.2.1 dX_rotate_22 rfl (lv_at hl 0 rfl) ?_
    refine lv_iconst (v := 1) S.1 S.2.1 dX_rotate_23 (by decide) ?_
    refine lv_ishr S.1 S.2.1 dX_rotate_24 ?_
    refine lv_iload_n S.1 S.2.1 dX_rotate_25 rfl (lv_at hl 0 rfl) ?_
    refine lv_iconst (v := 1) S.1 S.2.1 dX_rotate_26 (by decide) ?_
    refine lv_iand S.1 S.2.1 dX_rotate_27 ?_
    refine lv_bipush (v := 12) S.1 S.2.1 dX_rotate_28 (by decide) ?_
    refine lv_ishl S.1 S.2.1 dX_rotate_30 ?_
    refine lv_ior S.1 S.2.1 dX_rotate_31 ?_
    refine lv_istore_n S.1 S.2.1 dX_rotate_32 rfl hl (by decide) rfl (fun ls hl => ?_)
    have hl : lv_has ls 2 [(1, .int ((((lk <<< ((12 : Int32) &&& 31)) ||| ac) >>> ((1 : Int32) &&& 31)) ||| ((((lk <<< ((12 : Int32) &&& 31)) ||| ac) &&& 1) <<< ((12 : Int32) &&& 31)))), (0, .ref a.1)] := hl
    refine lv_aload_n S.1 S.2.1 dX_rotate_33 rfl (lv_at hl 1 rfl) ?_
    refine lv_iconst (v := 4) S.1 S.2.1 dX_rotate_34 (by decide) ?_
    refine cl_i (As := [.int 4]) (rest := []) S hN hK hP hD hS hA hl.1 (c_X_irHas l D a _ pc ac lk mq ma mb ir sw io dl ha rd sn md kf kb cn pf co ou 4) k_X_233 (rc_X hK hP) ⟨by decide, by decide⟩ rfl rfl (Nat.le_of_ble_eq_true rfl) ⟨Nat.le_refl _, Nat.le_refl _⟩ dX_rotate_35 (fun r u H locs hw hP hD hS => ?_)
    obtain ⟨g9, rfl, rfl⟩ | ⟨g10, rfl, rfl⟩ := hw
    · refine lv_if_eq (tgt := 54) S.1 S.2.1 dX_rotate_38 (by decide) (fun _ => ?_) (fun g11 => absurd (by decide) g11)
      refine lv_aload_n S.1 S.2.1 dX_rotate_54 rfl (lv_at hl 1 rfl) ?_
      refine lv_iload_n S.1 S.2.1 dX_rotate_55 rfl (lv_at hl 0 rfl) ?_
      refine lv_bipush (v := 12) S.1 S.2.1 dX_rotate_56 (by decide) ?_
      refine lv_ishr S.1 S.2.1 dX_rotate_58 ?_
      refine p_X_X_link S hK hP hD hS dX_rotate_59 (fun H locs hP hD hS => ?_)
      refine lv_aload_n S.1 S.2.1 dX_rotate_62 rfl (lv_at hl 1 rfl) ?_
      refine lv_iload_n S.1 S.2.1 dX_rotate_63 rfl (lv_at hl 0 rfl) ?_
      refine lv_sipush (v := 4095) S.1 S.2.1 dX_rotate_64 (by decide) ?_
      refine lv_iand S.1 S.2.1 dX_rotate_67 ?_
      refine p_X_X_ac S hK hP hD hS dX_rotate_68 (fun H locs hP hD hS => ?_)
      exact rt_v S hr hk hK hP hD hS (Or.inr (Or.inr (Or.inl (⟨g2, g9, rfl⟩)))) dX_rotate_71
    · refine lv_if_eq (tgt := 54) S.1 S.2.1 dX_rotate_38 (by decide) (fun g12 => absurd g12 (by decide)) (fun _ => ?_)
      refine lv_iload_n S.1 S.2.1 dX_rotate_41 rfl (lv_at hl 0 rfl) ?_
      refine lv_iconst (v := 1) S.1 S.2.1 dX_rotate_42 (by decide) ?_
      refine lv_ishl S.1 S.2.1 dX_rotate_43 ?_
      refine lv_iload_n S.1 S.2.1 dX_rotate_44 rfl (lv_at hl 0 rfl) ?_
      refine lv_bipush (v := 12) S.1 S.2.1 dX_rotate_45 (by decide) ?_
      refine lv_ishr S.1 S.2.1 dX_rotate_47 ?_
      refine lv_ior S.1 S.2.1 dX_rotate_48 ?_
      refine lv_sipush (v := 8191) S.1 S.2.1 dX_rotate_49 (by decide) ?_
      refine lv_iand S.1 S.2.1 dX_rotate_52 ?_
      refine lv_istore_n S.1 S.2.1 dX_rotate_53 rfl hl (by decide) rfl (fun ls hl => ?_)
      have hl : lv_has ls 2 [(1, .int (((((((lk <<< ((12 : Int32) &&& 31)) ||| ac) >>> ((1 : Int32) &&& 31)) ||| ((((lk <<< ((12 : Int32) &&& 31)) ||| ac) &&& 1) <<< ((12 : Int32) &&& 31))) <<< ((1 : Int32) &&& 31)) ||| (((((lk <<< ((12 : Int32) &&& 31)) ||| ac) >>> ((1 : Int32) &&& 31)) ||| ((((lk <<< ((12 : Int32) &&& 31)) ||| ac) &&& 1) <<< ((12 : Int32) &&& 31))) >>> ((12 : Int32) &&& 31))) &&& 8191)), (0, .ref a.1)] := hl
      refine lv_aload_n S.1 S.2.1 dX_rotate_54 rfl (lv_at hl 1 rfl) ?_
      refine lv_iload_n S.1 S.2.1 dX_rotate_55 rfl (lv_at hl 0 rfl) ?_
      refine lv_bipush (v := 12) S.1 S.2.1 dX_rotate_56 (by decide) ?_
      refine lv_ishr S.1 S.2.1 dX_rotate_58 ?_
      refine p_X_X_link S hK hP hD hS dX_rotate_59 (fun H locs hP hD hS => ?_)
      refine lv_aload_n S.1 S.2.1 dX_rotate_62 rfl (lv_at hl 1 rfl) ?_
      refine lv_iload_n S.1 S.2.1 dX_rotate_63 rfl (lv_at hl 0 rfl) ?_
      refine lv_sipush (v := 4095) S.1 S.2.1 dX_rotate_64 (by decide) ?_
      refine lv_iand S.1 S.2.1 dX_rotate_67 ?_
      refine p_X_X_ac S hK hP hD hS dX_rotate_68 (fun H locs hP hD hS => ?_)
      exact rt_v S hr hk hK hP hD hS (Or.inr (Or.inr (Or.inr (⟨g2, g10, rfl⟩)))) dX_rotate_71

set_option maxHeartbeats 4000000 in
set_option maxRecDepth 100000 in
theorem c_K_reset (l : Launch) (D : va_G) (a : AX) (sz : Nat) (pc ac lk mq ma mb ir sw io dl ha rd sn md kf kb cn pf : Int32) (co ou : Nat → Int32) : MV l D (wx a) (tx a) sz yK_reset cK_reset 1 0 [.ref a.2.2.1] (pc, ac, lk, mq, ma, mb, ir, sw, io, dl, ha, rd, sn, md, kf, kb, cn, pf, co, ou) (fun u => u = (pc, ac, lk, mq, ma, mb, ir, sw, io, dl, ha, rd, sn, md, 0, 0, cn, pf, co, ou)) := by
  refine en_v RK rfl (by decide) (Nat.le_of_ble_eq_true rfl) ?_
  intro p e s m below meth c A ls S hr hk hA hN hK hP hD hS hl
  have hl : lv_has ls 1 [(0, .ref a.2.2.1)] := hl
  refine lv_aload_n S.1 S.2.1 dK_reset_0 rfl (lv_at hl 0 rfl) ?_
  refine lv_iconst (v := 0) S.1 S.2.1 dK_reset_1 (by decide) ?_
  refine p_K_K_flag S hK hP hD hS rfl rfl dK_reset_2 (fun H locs hP hD hS => ?_)
  refine lv_aload_n S.1 S.2.1 dK_reset_5 rfl (lv_at hl 0 rfl) ?_
  refine lv_iconst (v := 0) S.1 S.2.1 dK_reset_6 (by decide) ?_
  refine p_K_K_buffer S hK hP hD hS dK_reset_7 (fun H locs hP hD hS => ?_)
  exact rt_v S hr hk hK hP hD hS (rfl) dK_reset_10

set_option maxHeartbeats 4000000 in
set_option maxRecDepth 100000 in
theorem c_K_press (l : Launch) (D : va_G) (a : AX) (sz : Nat) (pc ac lk mq ma mb ir sw io dl ha rd sn md kf kb cn pf : Int32) (co ou : Nat → Int32) (x : Int32) : MV l D (wx a) (tx a) sz yK_press cK_press 2 0 [.ref a.2.2.1, .int x] (pc, ac, lk, mq, ma, mb, ir, sw, io, dl, ha, rd, sn, md, kf, kb, cn, pf, co, ou) (fun u => u = (pc, ac, lk, mq, ma, mb, ir, sw, io, dl, ha, rd, sn, md, 1, (x &&& 255), cn, pf, co, ou)) := by
  refine en_v RK rfl (by decide) (Nat.le_of_ble_eq_true rfl) ?_
  intro p e s m below meth c A ls S hr hk hA hN hK hP hD hS hl
  have hl : lv_has ls 2 [(0, .ref a.2.2.1), (1, .int x)] := hl
  refine lv_aload_n S.1 S.2.1 dK_press_0 rfl (lv_at hl 0 rfl) ?_
  refine lv_iload_n S.1 S.2.1 dK_press_1 rfl (lv_at hl 1 rfl) ?_
  refine lv_sipush (v := 255) S.1 S.2.1 dK_press_2 (by decide) ?_
  refine lv_iand S.1 S.2.1 dK_press_5 ?_
  refine p_K_K_buffer S hK hP hD hS dK_press_6 (fun H locs hP hD hS => ?_)
  refine lv_aload_n S.1 S.2.1 dK_press_9 rfl (lv_at hl 0 rfl) ?_
  refine lv_iconst (v := 1) S.1 S.2.1 dK_press_10 (by decide) ?_
  refine p_K_K_flag S hK hP hD hS rfl rfl dK_press_11 (fun H locs hP hD hS => ?_)
  exact rt_v S hr hk hK hP hD hS (rfl) dK_press_14

set_option maxHeartbeats 4000000 in
set_option maxRecDepth 100000 in
theorem c_P_reset (l : Launch) (D : va_G) (a : AX) (sz : Nat) (pc ac lk mq ma mb ir sw io dl ha rd sn md kf kb cn pf : Int32) (co ou : Nat → Int32) : MV l D (wx a) (tx a) sz yP_reset cP_reset 1 0 [.ref a.2.2.2.1] (pc, ac, lk, mq, ma, mb, ir, sw, io, dl, ha, rd, sn, md, kf, kb, cn, pf, co, ou) (fun u => u = (pc, ac, lk, mq, ma, mb, ir, sw, io, dl, ha, rd, sn, md, kf, kb, 0, 0, co, ou)) := by
  refine en_v RP rfl (by decide) (Nat.le_of_ble_eq_true rfl) ?_
  intro p e s m below meth c A ls S hr hk hA hN hK hP hD hS hl
  have hl : lv_has ls 1 [(0, .ref a.2.2.2.1)] := hl
  refine lv_aload_n S.1 S.2.1 dP_reset_0 rfl (lv_at hl 0 rfl) ?_
  refine lv_iconst (v := 0) S.1 S.2.1 dP_reset_1 (by decide) ?_
  refine p_P_P_count S hK hP hD hS dP_reset_2 (fun H locs hP hD hS => ?_)
  refine lv_aload_n S.1 S.2.1 dP_reset_5 rfl (lv_at hl 0 rfl) ?_
  refine lv_iconst (v := 0) S.1 S.2.1 dP_reset_6 (by decide) ?_
  refine p_P_P_flag S hK hP hD hS rfl rfl dP_reset_7 (fun H locs hP hD hS => ?_)
  exact rt_v S hr hk hK hP hD hS (rfl) dP_reset_10

set_option maxHeartbeats 4000000 in
set_option maxRecDepth 100000 in
theorem c_P_isFull (l : Launch) (D : va_G) (a : AX) (sz : Nat) (pc ac lk mq ma mb ir sw io dl ha rd sn md kf kb cn pf : Int32) (co ou : Nat → Int32) : MI l D (wx a) (tx a) sz yP_isFull cP_isFull 1 (some .boolean) 0 [.ref a.2.2.2.1] (pc, ac, lk, mq, ma, mb, ir, sw, io, dl, ha, rd, sn, md, kf, kb, cn, pf, co, ou) (fun r u => ((cn < (nI a.2.2.2.2.2.2.2)) ∧ r = 0 ∧ u = (pc, ac, lk, mq, ma, mb, ir, sw, io, dl, ha, rd, sn, md, kf, kb, cn, pf, co, ou)) ∨ ((¬ cn < (nI a.2.2.2.2.2.2.2)) ∧ r = 1 ∧ u = (pc, ac, lk, mq, ma, mb, ir, sw, io, dl, ha, rd, sn, md, kf, kb, cn, pf, co, ou))) := by
  refine en_i RP rfl (by decide) (Nat.le_of_ble_eq_true rfl) ?_
  intro p e s m below meth c A ls S hr hk hA hN hK hP hD hS hl
  have hl : lv_has ls 1 [(0, .ref a.2.2.2.1)] := hl
  refine lv_aload_n S.1 S.2.1 dP_isFull_0 rfl (lv_at hl 0 rfl) ?_
  refine g_P_P_count S hK hP dP_isFull_1 ?_
  refine lv_aload_n S.1 S.2.1 dP_isFull_4 rfl (lv_at hl 0 rfl) ?_
  refine g_P_P_bytes S hK hP dP_isFull_5 ?_
  refine ln_xou S hK hP dP_isFull_8 ?_
  refine lv_icmp_lt (tgt := 16) S.1 S.2.1 dP_isFull_9 (by decide) (fun g1 => ?_) (fun g1 => ?_)
  · refine lv_iconst (v := 0) S.1 S.2.1 dP_isFull_16 (by decide) ?_
    exact rt_z S hr hk hK hP hD hS rfl (Or.inl (⟨g1, rfl, rfl⟩)) dP_isFull_17
  · refine lv_iconst (v := 1) S.1 S.2.1 dP_isFull_12 (by decide) ?_
    refine lv_goto (tgt := 17) S.1 S.2.1 dP_isFull_13 (by decide) ?_
    exact rt_z S hr hk hK hP hD hS rfl (Or.inr (⟨g1, rfl, rfl⟩)) dP_isFull_17
