set_option maxHeartbeats 4000000 in
set_option maxRecDepth 100000 in
theorem c_X_readOperand (l : Launch) (D : va_G) (a : AX) (sz : Nat) (pc ac lk mq ma mb ir sw io dl ha rd sn md kf kb cn pf : Int32) (co ou : Nat → Int32) (n : Int32) : MI l D (wx a) (tx a) sz yX_readOperand cX_readOperand 2 (some .int) 1 [.ref a.1, .int n] (pc, ac, lk, mq, ma, mb, ir, sw, io, dl, ha, rd, sn, md, kf, kb, cn, pf, co, ou) (fun r u => r = n ∧ u = (pc, ac, lk, mq, ma, (co (ma &&& 4095).toNatClampNeg), ir, sw, io, dl, ha, rd, sn, md, kf, kb, cn, pf, co, ou)) := by
  refine en_i RX rfl (by decide) (Nat.le_of_ble_eq_true rfl) ?_
  intro p e s m below meth c A ls S hr hk hA hN hK hP hD hS hl
  have hl : lv_has ls 2 [(0, .ref a.1), (1, .int n)] := hl
  refine lv_aload_n S.1 S.2.1 dX_readOperand_0 rfl (lv_at hl 0 rfl) ?_
  refine lv_aload_n S.1 S.2.1 dX_readOperand_1 rfl (lv_at hl 0 rfl) ?_
  refine lv_aload_n S.1 S.2.1 dX_readOperand_2 rfl (lv_at hl 0 rfl) ?_
  refine g_X_X_ma S hK hP dX_readOperand_3 ?_
  refine cl_i (As := [.int ma]) (rest := [.ref a.1]) S hN hK hP hD hS hA hl.1 (c_X_read l D a _ pc ac lk mq ma mb ir sw io dl ha rd sn md kf kb cn pf co ou ma) k_X_91 (rc_X hK hP) ⟨by decide, by decide⟩ rfl rfl (Nat.le_of_ble_eq_true rfl) ⟨Nat.le_refl _, Nat.le_refl _⟩ dX_readOperand_6 (fun r u H locs hw hP hD hS => ?_)
  obtain ⟨rfl, rfl⟩ := hw
  refine p_X_X_mb S hK hP hD hS dX_readOperand_9 (fun H locs hP hD hS => ?_)
  refine lv_iload_n S.1 S.2.1 dX_readOperand_12 rfl (lv_at hl 1 rfl) ?_
  exact rt_i S hr hk hK hP hD hS (⟨rfl, rfl⟩) dX_readOperand_13

set_option maxHeartbeats 4000000 in
set_option maxRecDepth 100000 in
theorem c_X_takeIntoMb (l : Launch) (D : va_G) (a : AX) (sz : Nat) (pc ac lk mq ma mb ir sw io dl ha rd sn md kf kb cn pf : Int32) (co ou : Nat → Int32) (v n : Int32) : MI l D (wx a) (tx a) sz yX_takeIntoMb cX_takeIntoMb 3 (some .int) 0 [.ref a.1, .int v, .int n] (pc, ac, lk, mq, ma, mb, ir, sw, io, dl, ha, rd, sn, md, kf, kb, cn, pf, co, ou) (fun r u => r = n ∧ u = (pc, ac, lk, mq, ma, v, ir, sw, io, dl, ha, rd, sn, md, kf, kb, cn, pf, co, ou)) := by
  refine en_i RX rfl (by decide) (Nat.le_of_ble_eq_true rfl) ?_
  intro p e s m below meth c A ls S hr hk hA hN hK hP hD hS hl
  have hl : lv_has ls 3 [(0, .ref a.1), (1, .int v), (2, .int n)] := hl
  refine lv_aload_n S.1 S.2.1 dX_takeIntoMb_0 rfl (lv_at hl 0 rfl) ?_
  refine lv_iload_n S.1 S.2.1 dX_takeIntoMb_1 rfl (lv_at hl 1 rfl) ?_
  refine p_X_X_mb S hK hP hD hS dX_takeIntoMb_2 (fun H locs hP hD hS => ?_)
  refine lv_iload_n S.1 S.2.1 dX_takeIntoMb_5 rfl (lv_at hl 2 rfl) ?_
  exact rt_i S hr hk hK hP hD hS (⟨rfl, rfl⟩) dX_takeIntoMb_6

set_option maxHeartbeats 4000000 in
set_option maxRecDepth 100000 in
theorem c_X_conditions (l : Launch) (D : va_G) (a : AX) (sz : Nat) (pc ac lk mq ma mb ir sw io dl ha rd sn md kf kb cn pf : Int32) (co ou : Nat → Int32) : MI l D (wx a) (tx a) sz yX_conditions cX_conditions 1 (some .int) 0 [.ref a.1] (pc, ac, lk, mq, ma, mb, ir, sw, io, dl, ha, rd, sn, md, kf, kb, cn, pf, co, ou) (fun r u => r = (((((if io = 0 then 0 else 1) + (if dl = 0 then 0 else 2)) + (if ha = 0 then 0 else 4)) + (if kf = 0 then 0 else 8)) + (if pf = 0 then 0 else 16)) ∧ u = (pc, ac, lk, mq, ma, mb, ir, sw, io, dl, ha, rd, sn, md, kf, kb, cn, pf, co, ou)) := by
  refine en_i RX rfl (by decide) (Nat.le_of_ble_eq_true rfl) ?_
  intro p e s m below meth c A ls S hr hk hA hN hK hP hD hS hl
  have hl : lv_has ls 1 [(0, .ref a.1)] := hl
  refine lv_aload_n S.1 S.2.1 dX_conditions_0 rfl (lv_at hl 0 rfl) ?_
  refine g_X_X_ion S hK hP dX_conditions_1 ?_
  refine dm_eq (tgt := 11) (j := 12) (g := 8) S.1 S.2.1 dX_conditions_4 (by decide) (fun k => lv_iconst (v := 1) S.1 S.2.1 dX_conditions_7 (by decide) k) dX_conditions_8 (by decide) (fun k => lv_iconst (v := 0) S.1 S.2.1 dX_conditions_11 (by decide) k) ?_
  refine lv_aload_n S.1 S.2.1 dX_conditions_12 rfl (lv_at hl 0 rfl) ?_
  refine g_X_X_delay S hK hP dX_conditions_13 ?_
  refine dm_eq (tgt := 23) (j := 24) (g := 20) S.1 S.2.1 dX_conditions_16 (by decide) (fun k => lv_iconst (v := 2) S.1 S.2.1 dX_conditions_19 (by decide) k) dX_conditions_20 (by decide) (fun k => lv_iconst (v := 0) S.1 S.2.1 dX_conditions_23 (by decide) k) ?_
  refine lv_iadd S.1 S.2.1 dX_conditions_24 ?_
  refine lv_aload_n S.1 S.2.1 dX_conditions_25 rfl (lv_at hl 0 rfl) ?_
  refine g_X_X_halted S hK hP dX_conditions_26 ?_
  refine dm_eq (tgt := 36) (j := 37) (g := 33) S.1 S.2.1 dX_conditions_29 (by decide) (fun k => lv_iconst (v := 4) S.1 S.2.1 dX_conditions_32 (by decide) k) dX_conditions_33 (by decide) (fun k => lv_iconst (v := 0) S.1 S.2.1 dX_conditions_36 (by decide) k) ?_
  refine lv_iadd S.1 S.2.1 dX_conditions_37 ?_
  refine lv_aload_n S.1 S.2.1 dX_conditions_38 rfl (lv_at hl 0 rfl) ?_
  refine g_X_X_keyboard S hK hP dX_conditions_39 ?_
  refine g_X_K_flag S hN hK hP dX_conditions_42 ?_
  refine dm_eq (tgt := 53) (j := 54) (g := 50) S.1 S.2.1 dX_conditions_45 (by decide) (fun k => lv_bipush (v := 8) S.1 S.2.1 dX_conditions_48 (by decide) k) dX_conditions_50 (by decide) (fun k => lv_iconst (v := 0) S.1 S.2.1 dX_conditions_53 (by decide) k) ?_
  refine lv_iadd S.1 S.2.1 dX_conditions_54 ?_
  refine lv_aload_n S.1 S.2.1 dX_conditions_55 rfl (lv_at hl 0 rfl) ?_
  refine g_X_X_printer S hK hP dX_conditions_56 ?_
  refine g_X_P_flag S hN hK hP dX_conditions_59 ?_
  refine dm_eq (tgt := 70) (j := 71) (g := 67) S.1 S.2.1 dX_conditions_62 (by decide) (fun k => lv_bipush (v := 16) S.1 S.2.1 dX_conditions_65 (by decide) k) dX_conditions_67 (by decide) (fun k => lv_iconst (v := 0) S.1 S.2.1 dX_conditions_70 (by decide) k) ?_
  refine lv_iadd S.1 S.2.1 dX_conditions_71 ?_
  exact rt_i S hr hk hK hP hD hS (⟨rfl, rfl⟩) dX_conditions_72

set_option maxHeartbeats 4000000 in
set_option maxRecDepth 100000 in
theorem c_X_begin (l : Launch) (D : va_G) (a : AX) (sz : Nat) (pc ac lk mq ma mb ir sw io dl ha rd sn md kf kb cn pf : Int32) (co ou : Nat → Int32) : MI l D (wx a) (tx a) sz yX_begin cX_begin 1 (some .int) 1 [.ref a.1] (pc, ac, lk, mq, ma, mb, ir, sw, io, dl, ha, rd, sn, md, kf, kb, cn, pf, co, ou) (fun r u => (r, u) = mu0 (pc, ac, lk, mq, ma, mb, ir, sw, io, dl, ha, rd, sn, md, kf, kb, cn, pf, co, ou)) := by
  refine en_i RX rfl (by decide) (Nat.le_of_ble_eq_true rfl) ?_
  intro p e s m below meth c A ls S hr hk hA hN hK hP hD hS hl
  have hl : lv_has ls 1 [(0, .ref a.1)] := hl
  refine lv_aload_n S.1 S.2.1 dX_begin_0 rfl (lv_at hl 0 rfl) ?_
  refine g_X_X_ion S hK hP dX_begin_1 ?_
  refine lv_if_eq (tgt := 37) S.1 S.2.1 dX_begin_4 (by decide) (fun g1 => ?_) (fun g1 => ?_)
  · refine lv_aload_n S.1 S.2.1 dX_begin_37 rfl (lv_at hl 0 rfl) ?_
    refine lv_iconst (v := 0) S.1 S.2.1 dX_begin_38 (by decide) ?_
    refine p_X_X_delay S hK hP hD hS rfl rfl dX_begin_39 (fun H locs hP hD hS => ?_)
    refine lv_aload_n S.1 S.2.1 dX_begin_42 rfl (lv_at hl 0 rfl) ?_
    refine lv_aload_n S.1 S.2.1 dX_begin_43 rfl (lv_at hl 0 rfl) ?_
    refine g_X_X_pc S hK hP dX_begin_44 ?_
    refine p_X_X_ma S hK hP hD hS dX_begin_47 (fun H locs hP hD hS => ?_)
    refine lv_aload_n S.1 S.2.1 dX_begin_50 rfl (lv_at hl 0 rfl) ?_
    refine cl_v (As := []) (rest := []) S hN hK hP hD hS hA hl.1 (c_X_advancePc l D a _ pc ac lk mq pc mb ir sw io 0 ha rd sn md kf kb cn pf co ou ) k_X_230 (rc_X hK hP) ⟨by decide, by decide⟩ rfl rfl (Nat.le_of_ble_eq_true rfl) ⟨Nat.le_refl _, Nat.le_refl _⟩ dX_begin_51 (fun u H locs hw hP hD hS => ?_)
    obtain rfl := hw
    refine lv_iconst (v := 1) S.1 S.2.1 dX_begin_54 (by decide) ?_
    exact rt_i S hr hk hK hP hD hS ((by simp [mu0, g1])) dX_begin_55
  · refine lv_aload_n S.1 S.2.1 dX_begin_7 rfl (lv_at hl 0 rfl) ?_
    refine g_X_X_delay S hK hP dX_begin_8 ?_
    refine lv_if_ne (tgt := 37) S.1 S.2.1 dX_begin_11 (by decide) (fun g2 => ?_) (fun g2 => ?_)
    · refine lv_aload_n S.1 S.2.1 dX_begin_37 rfl (lv_at hl 0 rfl) ?_
      refine lv_iconst (v := 0) S.1 S.2.1 dX_begin_38 (by decide) ?_
      refine p_X_X_delay S hK hP hD hS rfl rfl dX_begin_39 (fun H locs hP hD hS => ?_)
      refine lv_aload_n S.1 S.2.1 dX_begin_42 rfl (lv_at hl 0 rfl) ?_
      refine lv_aload_n S.1 S.2.1 dX_begin_43 rfl (lv_at hl 0 rfl) ?_
      refine g_X_X_pc S hK hP dX_begin_44 ?_
      refine p_X_X_ma S hK hP hD hS dX_begin_47 (fun H locs hP hD hS => ?_)
      refine lv_aload_n S.1 S.2.1 dX_begin_50 rfl (lv_at hl 0 rfl) ?_
      refine cl_v (As := []) (rest := []) S hN hK hP hD hS hA hl.1 (c_X_advancePc l D a _ pc ac lk mq pc mb ir sw io 0 ha rd sn md kf kb cn pf co ou ) k_X_230 (rc_X hK hP) ⟨by decide, by decide⟩ rfl rfl (Nat.le_of_ble_eq_true rfl) ⟨Nat.le_refl _, Nat.le_refl _⟩ dX_begin_51 (fun u H locs hw hP hD hS => ?_)
      obtain rfl := hw
      refine lv_iconst (v := 1) S.1 S.2.1 dX_begin_54 (by decide) ?_
      exact rt_i S hr hk hK hP hD hS ((by simp [mu0, g1, g2])) dX_begin_55
    · refine lv_aload_n S.1 S.2.1 dX_begin_14 rfl (lv_at hl 0 rfl) ?_
      refine g_X_X_keyboard S hK hP dX_begin_15 ?_
      refine g_X_K_flag S hN hK hP dX_begin_18 ?_
      refine lv_if_ne (tgt := 34) S.1 S.2.1 dX_begin_21 (by decide) (fun g3 => ?_) (fun g3 => ?_)
      · refine lv_bipush (v := 40) S.1 S.2.1 dX_begin_34 (by decide) ?_
        exact rt_i S hr hk hK hP hD hS ((by simp [mu0, g1, g2, g3])) dX_begin_36
      · refine lv_aload_n S.1 S.2.1 dX_begin_24 rfl (lv_at hl 0 rfl) ?_
        refine g_X_X_printer S hK hP dX_begin_25 ?_
        refine g_X_P_flag S hN hK hP dX_begin_28 ?_
        refine lv_if_eq (tgt := 37) S.1 S.2.1 dX_begin_31 (by decide) (fun g4 => ?_) (fun g4 => ?_)
        · refine lv_aload_n S.1 S.2.1 dX_begin_37 rfl (lv_at hl 0 rfl) ?_
          refine lv_iconst (v := 0) S.1 S.2.1 dX_begin_38 (by decide) ?_
          refine p_X_X_delay S hK hP hD hS rfl rfl dX_begin_39 (fun H locs hP hD hS => ?_)
          refine lv_aload_n S.1 S.2.1 dX_begin_42 rfl (lv_at hl 0 rfl) ?_
          refine lv_aload_n S.1 S.2.1 dX_begin_43 rfl (lv_at hl 0 rfl) ?_
          refine g_X_X_pc S hK hP dX_begin_44 ?_
          refine p_X_X_ma S hK hP hD hS dX_begin_47 (fun H locs hP hD hS => ?_)
          refine lv_aload_n S.1 S.2.1 dX_begin_50 rfl (lv_at hl 0 rfl) ?_
          refine cl_v (As := []) (rest := []) S hN hK hP hD hS hA hl.1 (c_X_advancePc l D a _ pc ac lk mq pc mb ir sw io 0 ha rd sn md kf kb cn pf co ou ) k_X_230 (rc_X hK hP) ⟨by decide, by decide⟩ rfl rfl (Nat.le_of_ble_eq_true rfl) ⟨Nat.le_refl _, Nat.le_refl _⟩ dX_begin_51 (fun u H locs hw hP hD hS => ?_)
          obtain rfl := hw
          refine lv_iconst (v := 1) S.1 S.2.1 dX_begin_54 (by decide) ?_
          exact rt_i S hr hk hK hP hD hS ((by simp [mu0, g1, g2, g3, g4])) dX_begin_55
        · refine lv_bipush (v := 40) S.1 S.2.1 dX_begin_34 (by decide) ?_
          exact rt_i S hr hk hK hP hD hS ((by simp [mu0, g1, g2, g3, g4])) dX_begin_36

set_option maxHeartbeats 4000000 in
set_option maxRecDepth 100000 in
theorem c_X_fetch (l : Launch) (D : va_G) (a : AX) (sz : Nat) (pc ac lk mq ma mb ir sw io dl ha rd sn md kf kb cn pf : Int32) (co ou : Nat → Int32) : MI l D (wx a) (tx a) sz yX_fetch cX_fetch 1 (some .int) 1 [.ref a.1] (pc, ac, lk, mq, ma, mb, ir, sw, io, dl, ha, rd, sn, md, kf, kb, cn, pf, co, ou) (fun r u => (r, u) = mu1 (pc, ac, lk, mq, ma, mb, ir, sw, io, dl, ha, rd, sn, md, kf, kb, cn, pf, co, ou)) := by
  refine en_i RX rfl (by decide) (Nat.le_of_ble_eq_true rfl) ?_
  intro p e s m below meth c A ls S hr hk hA hN hK hP hD hS hl
  have hl : lv_has ls 1 [(0, .ref a.1)] := hl
  refine lv_aload_n S.1 S.2.1 dX_fetch_0 rfl (lv_at hl 0 rfl) ?_
  refine lv_aload_n S.1 S.2.1 dX_fetch_1 rfl (lv_at hl 0 rfl) ?_
  refine lv_aload_n S.1 S.2.1 dX_fetch_2 rfl (lv_at hl 0 rfl) ?_
  refine g_X_X_ma S hK hP dX_fetch_3 ?_
  refine cl_i (As := [.int ma]) (rest := [.ref a.1]) S hN hK hP hD hS hA hl.1 (c_X_read l D a _ pc ac lk mq ma mb ir sw io dl ha rd sn md kf kb cn pf co ou ma) k_X_91 (rc_X hK hP) ⟨by decide, by decide⟩ rfl rfl (Nat.le_of_ble_eq_true rfl) ⟨Nat.le_refl _, Nat.le_refl _⟩ dX_fetch_6 (fun r u H locs hw hP hD hS => ?_)
  obtain ⟨rfl, rfl⟩ := hw
  refine p_X_X_mb S hK hP hD hS dX_fetch_9 (fun H locs hP hD hS => ?_)
  refine lv_aload_n S.1 S.2.1 dX_fetch_12 rfl (lv_at hl 0 rfl) ?_
  refine lv_aload_n S.1 S.2.1 dX_fetch_13 rfl (lv_at hl 0 rfl) ?_
  refine g_X_X_mb S hK hP dX_fetch_14 ?_
  refine p_X_X_ir S hK hP hD hS dX_fetch_17 (fun H locs hP hD hS => ?_)
  refine lv_aload_n S.1 S.2.1 dX_fetch_20 rfl (lv_at hl 0 rfl) ?_
  refine g_X_X_ir S hK hP dX_fetch_21 ?_
  refine lv_sipush (v := 3584) S.1 S.2.1 dX_fetch_24 (by decide) ?_
  refine lv_icmp_lt (tgt := 33) S.1 S.2.1 dX_fetch_27 (by decide) (fun g1 => ?_) (fun g1 => ?_)
  · refine lv_aload_n S.1 S.2.1 dX_fetch_33 rfl (lv_at hl 0 rfl) ?_
    refine g_X_X_ir S hK hP dX_fetch_34 ?_
    refine lv_sipush (v := 3072) S.1 S.2.1 dX_fetch_37 (by decide) ?_
    refine lv_icmp_lt (tgt := 48) S.1 S.2.1 dX_fetch_40 (by decide) (fun g2 => ?_) (fun g2 => ?_)
    · refine lv_iconst (v := 2) S.1 S.2.1 dX_fetch_48 (by decide) ?_
      exact rt_i S hr hk hK hP hD hS ((by simp [mu1, g1, g2])) dX_fetch_49
    · refine lv_bipush (v := 32) S.1 S.2.1 dX_fetch_43 (by decide) ?_
      refine lv_goto (tgt := 49) S.1 S.2.1 dX_fetch_45 (by decide) ?_
      exact rt_i S hr hk hK hP hD hS ((by simp [mu1, g1, g2])) dX_fetch_49
  · refine lv_bipush (v := 20) S.1 S.2.1 dX_fetch_30 (by decide) ?_
    exact rt_i S hr hk hK hP hD hS ((by simp [mu1, g1])) dX_fetch_32

set_option maxHeartbeats 4000000 in
set_option maxRecDepth 100000 in
theorem c_X_findAddress (l : Launch) (D : va_G) (a : AX) (sz : Nat) (pc ac lk mq ma mb ir sw io dl ha rd sn md kf kb cn pf : Int32) (co ou : Nat → Int32) : MI l D (wx a) (tx a) sz yX_findAddress cX_findAddress 2 (some .int) 1 [.ref a.1] (pc, ac, lk, mq, ma, mb, ir, sw, io, dl, ha, rd, sn, md, kf, kb, cn, pf, co, ou) (fun r u => (r, u) = mu2 (pc, ac, lk, mq, ma, mb, ir, sw, io, dl, ha, rd, sn, md, kf, kb, cn, pf, co, ou)) := by
  refine en_i RX rfl (by decide) (Nat.le_of_ble_eq_true rfl) ?_
  intro p e s m below meth c A ls S hr hk hA hN hK hP hD hS hl
  have hl : lv_has ls 2 [(0, .ref a.1)] := hl
  refine lv_aload_n S.1 S.2.1 dX_findAddress_0 rfl (lv_at hl 0 rfl) ?_
  refine lv_sipush (v := 128) S.1 S.2.1 dX_findAddress_1 (by decide) ?_
  refine cl_i (As := [.int 128]) (rest := []) S hN hK hP hD hS hA hl.1 (c_X_irHas l D a _ pc ac lk mq ma mb ir sw io dl ha rd sn md kf kb cn pf co ou 128) k_X_233 (rc_X hK hP) ⟨by decide, by decide⟩ rfl rfl (Nat.le_of_ble_eq_true rfl) ⟨Nat.le_refl _, Nat.le_refl _⟩ dX_findAddress_4 (fun r u H locs hw hP hD hS => ?_)
  obtain ⟨g1, rfl, rfl⟩ | ⟨g2, rfl, rfl⟩ := hw
  · refine lv_if_eq (tgt := 21) S.1 S.2.1 dX_findAddress_7 (by decide) (fun _ => ?_) (fun g3 => absurd (by decide) g3)
    refine lv_iconst (v := 0) S.1 S.2.1 dX_findAddress_21 (by decide) ?_
    refine lv_istore_n S.1 S.2.1 dX_findAddress_22 rfl hl (by decide) rfl (fun ls hl => ?_)
    have hl : lv_has ls 2 [(1, .int 0), (0, .ref a.1)] := hl
    refine lv_aload_n S.1 S.2.1 dX_findAddress_23 rfl (lv_at hl 1 rfl) ?_
    refine lv_iload_n S.1 S.2.1 dX_findAddress_24 rfl (lv_at hl 0 rfl) ?_
    refine lv_aload_n S.1 S.2.1 dX_findAddress_25 rfl (lv_at hl 1 rfl) ?_
    refine g_X_X_ir S hK hP dX_findAddress_26 ?_
    refine lv_bipush (v := 127) S.1 S.2.1 dX_findAddress_29 (by decide) ?_
    refine lv_iand S.1 S.2.1 dX_findAddress_31 ?_
    refine lv_iadd S.1 S.2.1 dX_findAddress_32 ?_
    refine p_X_X_ma S hK hP hD hS dX_findAddress_33 (fun H locs hP hD hS => ?_)
    refine lv_aload_n S.1 S.2.1 dX_findAddress_36 rfl (lv_at hl 1 rfl) ?_
    refine lv_sipush (v := 256) S.1 S.2.1 dX_findAddress_37 (by decide) ?_
    refine cl_i (As := [.int 256]) (rest := []) S hN hK hP hD hS hA hl.1 (c_X_irHas l D a _ pc ac lk mq (0 + (ir &&& 127)) mb ir sw io dl ha rd sn md kf kb cn pf co ou 256) k_X_233 (rc_X hK hP) ⟨by decide, by decide⟩ rfl rfl (Nat.le_of_ble_eq_true rfl) ⟨Nat.le_refl _, Nat.le_refl _⟩ dX_findAddress_40 (fun r u H locs hw hP hD hS => ?_)
    obtain ⟨g4, rfl, rfl⟩ | ⟨g5, rfl, rfl⟩ := hw
    · refine lv_if_eq (tgt := 50) S.1 S.2.1 dX_findAddress_43 (by decide) (fun _ => ?_) (fun g6 => absurd (by decide) g6)
      refine lv_aload_n S.1 S.2.1 dX_findAddress_50 rfl (lv_at hl 1 rfl) ?_
      refine cl_i (As := []) (rest := []) S hN hK hP hD hS hA hl.1 (c_X_firstOfInstruction l D a _ pc ac lk mq (0 + (ir &&& 127)) mb ir sw io dl ha rd sn md kf kb cn pf co ou ) k_X_236 (rc_X hK hP) ⟨by decide, by decide⟩ rfl rfl (Nat.le_of_ble_eq_true rfl) ⟨Nat.le_refl _, Nat.le_refl _⟩ dX_findAddress_51 (fun r u H locs hw hP hD hS => ?_)
      obtain ⟨rfl, rfl⟩ := hw
      exact rt_i S hr hk hK hP hD hS ((by simp [mu2, g1, g4])) dX_findAddress_54
    · refine lv_if_eq (tgt := 50) S.1 S.2.1 dX_findAddress_43 (by decide) (fun g7 => absurd g7 (by decide)) (fun _ => ?_)
      refine lv_iconst (v := 3) S.1 S.2.1 dX_findAddress_46 (by decide) ?_
      refine lv_goto (tgt := 54) S.1 S.2.1 dX_findAddress_47 (by decide) ?_
      exact rt_i S hr hk hK hP hD hS ((by simp [mu2, g1, g5])) dX_findAddress_54
  · refine lv_if_eq (tgt := 21) S.1 S.2.1 dX_findAddress_7 (by decide) (fun g8 => absurd g8 (by decide)) (fun _ => ?_)
    refine lv_aload_n S.1 S.2.1 dX_findAddress_10 rfl (lv_at hl 0 rfl) ?_
    refine g_X_X_ma S hK hP dX_findAddress_11 ?_
    refine lv_sipush (v := 3968) S.1 S.2.1 dX_findAddress_14 (by decide) ?_
    refine lv_iand S.1 S.2.1 dX_findAddress_17 ?_
    refine lv_goto (tgt := 22) S.1 S.2.1 dX_findAddress_18 (by decide) ?_
    refine lv_istore_n S.1 S.2.1 dX_findAddress_22 rfl hl (by decide) rfl (fun ls hl => ?_)
    have hl : lv_has ls 2 [(1, .int (ma &&& 3968)), (0, .ref a.1)] := hl
    refine lv_aload_n S.1 S.2.1 dX_findAddress_23 rfl (lv_at hl 1 rfl) ?_
    refine lv_iload_n S.1 S.2.1 dX_findAddress_24 rfl (lv_at hl 0 rfl) ?_
    refine lv_aload_n S.1 S.2.1 dX_findAddress_25 rfl (lv_at hl 1 rfl) ?_
    refine g_X_X_ir S hK hP dX_findAddress_26 ?_
    refine lv_bipush (v := 127) S.1 S.2.1 dX_findAddress_29 (by decide) ?_
    refine lv_iand S.1 S.2.1 dX_findAddress_31 ?_
    refine lv_iadd S.1 S.2.1 dX_findAddress_32 ?_
    refine p_X_X_ma S hK hP hD hS dX_findAddress_33 (fun H locs hP hD hS => ?_)
    refine lv_aload_n S.1 S.2.1 dX_findAddress_36 rfl (lv_at hl 1 rfl) ?_
    refine lv_sipush (v := 256) S.1 S.2.1 dX_findAddress_37 (by decide) ?_
    refine cl_i (As := [.int 256]) (rest := []) S hN hK hP hD hS hA hl.1 (c_X_irHas l D a _ pc ac lk mq ((ma &&& 3968) + (ir &&& 127)) mb ir sw io dl ha rd sn md kf kb cn pf co ou 256) k_X_233 (rc_X hK hP) ⟨by decide, by decide⟩ rfl rfl (Nat.le_of_ble_eq_true rfl) ⟨Nat.le_refl _, Nat.le_refl _⟩ dX_findAddress_40 (fun r u H locs hw hP hD hS => ?_)
    obtain ⟨g9, rfl, rfl⟩ | ⟨g10, rfl, rfl⟩ := hw
    · refine lv_if_eq (tgt := 50) S.1 S.2.1 dX_findAddress_43 (by decide) (fun _ => ?_) (fun g11 => absurd (by decide) g11)
      refine lv_aload_n S.1 S.2.1 dX_findAddress_50 rfl (lv_at hl 1 rfl) ?_
      refine cl_i (As := []) (rest := []) S hN hK hP hD hS hA hl.1 (c_X_firstOfInstruction l D a _ pc ac lk mq ((ma &&& 3968) + (ir &&& 127)) mb ir sw io dl ha rd sn md kf kb cn pf co ou ) k_X_236 (rc_X hK hP) ⟨by decide, by decide⟩ rfl rfl (Nat.le_of_ble_eq_true rfl) ⟨Nat.le_refl _, Nat.le_refl _⟩ dX_findAddress_51 (fun r u H locs hw hP hD hS => ?_)
      obtain ⟨rfl, rfl⟩ := hw
      exact rt_i S hr hk hK hP hD hS ((by simp [mu2, g2, g9])) dX_findAddress_54
    · refine lv_if_eq (tgt := 50) S.1 S.2.1 dX_findAddress_43 (by decide) (fun g12 => absurd g12 (by decide)) (fun _ => ?_)
      refine lv_iconst (v := 3) S.1 S.2.1 dX_findAddress_46 (by decide) ?_
      refine lv_goto (tgt := 54) S.1 S.2.1 dX_findAddress_47 (by decide) ?_
      exact rt_i S hr hk hK hP hD hS ((by simp [mu2, g2, g10])) dX_findAddress_54

set_option maxHeartbeats 4000000 in
set_option maxRecDepth 100000 in
theorem c_X_readPointer (l : Launch) (D : va_G) (a : AX) (sz : Nat) (pc ac lk mq ma mb ir sw io dl ha rd sn md kf kb cn pf : Int32) (co ou : Nat → Int32) : MI l D (wx a) (tx a) sz yX_readPointer cX_readPointer 1 (some .int) 1 [.ref a.1] (pc, ac, lk, mq, ma, mb, ir, sw, io, dl, ha, rd, sn, md, kf, kb, cn, pf, co, ou) (fun r u => (r, u) = mu3 (pc, ac, lk, mq, ma, mb, ir, sw, io, dl, ha, rd, sn, md, kf, kb, cn, pf, co, ou)) := by
  refine en_i RX rfl (by decide) (Nat.le_of_ble_eq_true rfl) ?_
  intro p e s m below meth c A ls S hr hk hA hN hK hP hD hS hl
  have hl : lv_has ls 1 [(0, .ref a.1)] := hl
  refine lv_aload_n S.1 S.2.1 dX_readPointer_0 rfl (lv_at hl 0 rfl) ?_
  refine lv_aload_n S.1 S.2.1 dX_readPointer_1 rfl (lv_at hl 0 rfl) ?_
  refine lv_aload_n S.1 S.2.1 dX_readPointer_2 rfl (lv_at hl 0 rfl) ?_
  refine g_X_X_ma S hK hP dX_readPointer_3 ?_
  refine cl_i (As := [.int ma]) (rest := [.ref a.1]) S hN hK hP hD hS hA hl.1 (c_X_read l D a _ pc ac lk mq ma mb ir sw io dl ha rd sn md kf kb cn pf co ou ma) k_X_91 (rc_X hK hP) ⟨by decide, by decide⟩ rfl rfl (Nat.le_of_ble_eq_true rfl) ⟨Nat.le_refl _, Nat.le_refl _⟩ dX_readPointer_6 (fun r u H locs hw hP hD hS => ?_)
  obtain ⟨rfl, rfl⟩ := hw
  refine p_X_X_mb S hK hP hD hS dX_readPointer_9 (fun H locs hP hD hS => ?_)
  refine lv_aload_n S.1 S.2.1 dX_readPointer_12 rfl (lv_at hl 0 rfl) ?_
  refine g_X_X_ma S hK hP dX_readPointer_13 ?_
  refine lv_bipush (v := 8) S.1 S.2.1 dX_readPointer_16 (by decide) ?_
  refine lv_icmp_lt (tgt := 34) S.1 S.2.1 dX_readPointer_18 (by decide) (fun g1 => ?_) (fun g1 => ?_)
  · refine lv_iconst (v := 5) S.1 S.2.1 dX_readPointer_34 (by decide) ?_
    exact rt_i S hr hk hK hP hD hS ((by simp [mu3, g1])) dX_readPointer_35
  · refine lv_aload_n S.1 S.2.1 dX_readPointer_21 rfl (lv_at hl 0 rfl) ?_
    refine g_X_X_ma S hK hP dX_readPointer_22 ?_
    refine lv_bipush (v := 15) S.1 S.2.1 dX_readPointer_25 (by decide) ?_
    refine lv_icmp_gt (tgt := 34) S.1 S.2.1 dX_readPointer_27 (by decide) (fun g2 => ?_) (fun g2 => ?_)
    · refine lv_iconst (v := 5) S.1 S.2.1 dX_readPointer_34 (by decide) ?_
      exact rt_i S hr hk hK hP hD hS ((by simp [mu3, g1, g2])) dX_readPointer_35
    · refine lv_iconst (v := 4) S.1 S.2.1 dX_readPointer_30 (by decide) ?_
      refine lv_goto (tgt := 35) S.1 S.2.1 dX_readPointer_31 (by decide) ?_
      exact rt_i S hr hk hK hP hD hS ((by simp [mu3, g1, g2])) dX_readPointer_35

set_option maxHeartbeats 4000000 in
set_option maxRecDepth 100000 in
theorem c_X_advancePointer (l : Launch) (D : va_G) (a : AX) (sz : Nat) (pc ac lk mq ma mb ir sw io dl ha rd sn md kf kb cn pf : Int32) (co ou : Nat → Int32) : MI l D (wx a) (tx a) sz yX_advancePointer cX_advancePointer 1 (some .int) 1 [.ref a.1] (pc, ac, lk, mq, ma, mb, ir, sw, io, dl, ha, rd, sn, md, kf, kb, cn, pf, co, ou) (fun r u => (r, u) = mu4 (pc, ac, lk, mq, ma, mb, ir, sw, io, dl, ha, rd, sn, md, kf, kb, cn, pf, co, ou)) := by
  refine en_i RX rfl (by decide) (Nat.le_of_ble_eq_true rfl) ?_
  intro p e s m below meth c A ls S hr hk hA hN hK hP hD hS hl
  have hl : lv_has ls 1 [(0, .ref a.1)] := hl
  refine lv_aload_n S.1 S.2.1 dX_advancePointer_0 rfl (lv_at hl 0 rfl) ?_
  refine lv_aload_n S.1 S.2.1 dX_advancePointer_1 rfl (lv_at hl 0 rfl) ?_
  refine g_X_X_mb S hK hP dX_advancePointer_2 ?_
  refine lv_iconst (v := 1) S.1 S.2.1 dX_advancePointer_5 (by decide) ?_
  refine lv_iadd S.1 S.2.1 dX_advancePointer_6 ?_
  refine lv_sipush (v := 4095) S.1 S.2.1 dX_advancePointer_7 (by decide) ?_
  refine lv_iand S.1 S.2.1 dX_advancePointer_10 ?_
  refine p_X_X_mb S hK hP hD hS dX_advancePointer_11 (fun H locs hP hD hS => ?_)
  refine lv_aload_n S.1 S.2.1 dX_advancePointer_14 rfl (lv_at hl 0 rfl) ?_
  refine lv_aload_n S.1 S.2.1 dX_advancePointer_15 rfl (lv_at hl 0 rfl) ?_
  refine g_X_X_ma S hK hP dX_advancePointer_16 ?_
  refine lv_aload_n S.1 S.2.1 dX_advancePointer_19 rfl (lv_at hl 0 rfl) ?_
  refine g_X_X_mb S hK hP dX_advancePointer_20 ?_
  refine cl_v (As := [.int ma, .int ((mb + 1) &&& 4095)]) (rest := []) S hN hK hP hD hS hA hl.1 (c_X_write l D a _ pc ac lk mq ma ((mb + 1) &&& 4095) ir sw io dl ha rd sn md kf kb cn pf co ou ma ((mb + 1) &&& 4095)) k_X_87 (rc_X hK hP) ⟨by decide, by decide⟩ rfl rfl (Nat.le_of_ble_eq_true rfl) ⟨Nat.le_refl _, Nat.le_refl _⟩ dX_advancePointer_23 (fun u H locs hw hP hD hS => ?_)
  obtain rfl := hw
  refine lv_iconst (v := 5) S.1 S.2.1 dX_advancePointer_26 (by decide) ?_
  exact rt_i S hr hk hK hP hD hS ((by simp [mu4])) dX_advancePointer_27

set_option maxHeartbeats 4000000 in
set_option maxRecDepth 100000 in
theorem c_X_followPointer (l : Launch) (D : va_G) (a : AX) (sz : Nat) (pc ac lk mq ma mb ir sw io dl ha rd sn md kf kb cn pf : Int32) (co ou : Nat → Int32) : MI l D (wx a) (tx a) sz yX_followPointer cX_followPointer 1 (some .int) 1 [.ref a.1] (pc, ac, lk, mq, ma, mb, ir, sw, io, dl, ha, rd, sn, md, kf, kb, cn, pf, co, ou) (fun r u => (r, u) = mu5 (pc, ac, lk, mq, ma, mb, ir, sw, io, dl, ha, rd, sn, md, kf, kb, cn, pf, co, ou)) := by
  refine en_i RX rfl (by decide) (Nat.le_of_ble_eq_true rfl) ?_
  intro p e s m below meth c A ls S hr hk hA hN hK hP hD hS hl
  have hl : lv_has ls 1 [(0, .ref a.1)] := hl
  refine lv_aload_n S.1 S.2.1 dX_followPointer_0 rfl (lv_at hl 0 rfl) ?_
  refine lv_aload_n S.1 S.2.1 dX_followPointer_1 rfl (lv_at hl 0 rfl) ?_
  refine g_X_X_mb S hK hP dX_followPointer_2 ?_
  refine p_X_X_ma S hK hP hD hS dX_followPointer_5 (fun H locs hP hD hS => ?_)
  refine lv_aload_n S.1 S.2.1 dX_followPointer_8 rfl (lv_at hl 0 rfl) ?_
  refine cl_i (As := []) (rest := []) S hN hK hP hD hS hA hl.1 (c_X_firstOfInstruction l D a _ pc ac lk mq mb mb ir sw io dl ha rd sn md kf kb cn pf co ou ) k_X_236 (rc_X hK hP) ⟨by decide, by decide⟩ rfl rfl (Nat.le_of_ble_eq_true rfl) ⟨Nat.le_refl _, Nat.le_refl _⟩ dX_followPointer_9 (fun r u H locs hw hP hD hS => ?_)
  obtain ⟨rfl, rfl⟩ := hw
  exact rt_i S hr hk hK hP hD hS ((by simp [mu5])) dX_followPointer_12

set_option maxHeartbeats 4000000 in
set_option maxRecDepth 100000 in
theorem c_X_readOneMore (l : Launch) (D : va_G) (a : AX) (sz : Nat) (pc ac lk mq ma mb ir sw io dl ha rd sn md kf kb cn pf : Int32) (co ou : Nat → Int32) : MI l D (wx a) (tx a) sz yX_readOneMore cX_readOneMore 1 (some .int) 1 [.ref a.1] (pc, ac, lk, mq, ma, mb, ir, sw, io, dl, ha, rd, sn, md, kf, kb, cn, pf, co, ou) (fun r u => (r, u) = mu10 (pc, ac, lk, mq, ma, mb, ir, sw, io, dl, ha, rd, sn, md, kf, kb, cn, pf, co, ou)) := by
  refine en_i RX rfl (by decide) (Nat.le_of_ble_eq_true rfl) ?_
  intro p e s m below meth c A ls S hr hk hA hN hK hP hD hS hl
  have hl : lv_has ls 1 [(0, .ref a.1)] := hl
  refine lv_aload_n S.1 S.2.1 dX_readOneMore_0 rfl (lv_at hl 0 rfl) ?_
  refine lv_aload_n S.1 S.2.1 dX_readOneMore_1 rfl (lv_at hl 0 rfl) ?_
  refine lv_aload_n S.1 S.2.1 dX_readOneMore_2 rfl (lv_at hl 0 rfl) ?_
  refine g_X_X_ma S hK hP dX_readOneMore_3 ?_
  refine cl_i (As := [.int ma]) (rest := [.ref a.1]) S hN hK hP hD hS hA hl.1 (c_X_read l D a _ pc ac lk mq ma mb ir sw io dl ha rd sn md kf kb cn pf co ou ma) k_X_91 (rc_X hK hP) ⟨by decide, by decide⟩ rfl rfl (Nat.le_of_ble_eq_true rfl) ⟨Nat.le_refl _, Nat.le_refl _⟩ dX_readOneMore_6 (fun r u H locs hw hP hD hS => ?_)
  obtain ⟨rfl, rfl⟩ := hw
  refine lv_iconst (v := 1) S.1 S.2.1 dX_readOneMore_9 (by decide) ?_
  refine lv_iadd S.1 S.2.1 dX_readOneMore_10 ?_
  refine lv_sipush (v := 4095) S.1 S.2.1 dX_readOneMore_11 (by decide) ?_
  refine lv_iand S.1 S.2.1 dX_readOneMore_14 ?_
  refine p_X_X_mb S hK hP hD hS dX_readOneMore_15 (fun H locs hP hD hS => ?_)
  refine lv_bipush (v := 18) S.1 S.2.1 dX_readOneMore_18 (by decide) ?_
  exact rt_i S hr hk hK hP hD hS ((by simp [mu10])) dX_readOneMore_20

set_option maxHeartbeats 4000000 in
set_option maxRecDepth 100000 in
theorem c_X_jump (l : Launch) (D : va_G) (a : AX) (sz : Nat) (pc ac lk mq ma mb ir sw io dl ha rd sn md kf kb cn pf : Int32) (co ou : Nat → Int32) : MI l D (wx a) (tx a) sz yX_jump cX_jump 1 (some .int) 0 [.ref a.1] (pc, ac, lk, mq, ma, mb, ir, sw, io, dl, ha, rd, sn, md, kf, kb, cn, pf, co, ou) (fun r u => (r, u) = mu13 (pc, ac, lk, mq, ma, mb, ir, sw, io, dl, ha, rd, sn, md, kf, kb, cn, pf, co, ou)) := by
  refine en_i RX rfl (by decide) (Nat.le_of_ble_eq_true rfl) ?_
  intro p e s m below meth c A ls S hr hk hA hN hK hP hD hS hl
  have hl : lv_has ls 1 [(0, .ref a.1)] := hl
  refine lv_aload_n S.1 S.2.1 dX_jump_0 rfl (lv_at hl 0 rfl) ?_
  refine lv_aload_n S.1 S.2.1 dX_jump_1 rfl (lv_at hl 0 rfl) ?_
  refine g_X_X_ma S hK hP dX_jump_2 ?_
  refine p_X_X_pc S hK hP hD hS dX_jump_5 (fun H locs hP hD hS => ?_)
  refine lv_iconst (v := 0) S.1 S.2.1 dX_jump_8 (by decide) ?_
  exact rt_i S hr hk hK hP hD hS ((by simp [mu13])) dX_jump_9

set_option maxHeartbeats 4000000 in
set_option maxRecDepth 100000 in
theorem c_X_storeAndGoBehind (l : Launch) (D : va_G) (a : AX) (sz : Nat) (pc ac lk mq ma mb ir sw io dl ha rd sn md kf kb cn pf : Int32) (co ou : Nat → Int32) : MI l D (wx a) (tx a) sz yX_storeAndGoBehind cX_storeAndGoBehind 1 (some .int) 1 [.ref a.1] (pc, ac, lk, mq, ma, mb, ir, sw, io, dl, ha, rd, sn, md, kf, kb, cn, pf, co, ou) (fun r u => (r, u) = mu15 (pc, ac, lk, mq, ma, mb, ir, sw, io, dl, ha, rd, sn, md, kf, kb, cn, pf, co, ou)) := by
  refine en_i RX rfl (by decide) (Nat.le_of_ble_eq_true rfl) ?_
  intro p e s m below meth c A ls S hr hk hA hN hK hP hD hS hl
  have hl : lv_has ls 1 [(0, .ref a.1)] := hl
  refine lv_aload_n S.1 S.2.1 dX_storeAndGoBehind_0 rfl (lv_at hl 0 rfl) ?_
  refine lv_aload_n S.1 S.2.1 dX_storeAndGoBehind_1 rfl (lv_at hl 0 rfl) ?_
  refine g_X_X_ma S hK hP dX_storeAndGoBehind_2 ?_
  refine lv_aload_n S.1 S.2.1 dX_storeAndGoBehind_5 rfl (lv_at hl 0 rfl) ?_
  refine g_X_X_mb S hK hP dX_storeAndGoBehind_6 ?_
  refine cl_v (As := [.int ma, .int mb]) (rest := []) S hN hK hP hD hS hA hl.1 (c_X_write l D a _ pc ac lk mq ma mb ir sw io dl ha rd sn md kf kb cn pf co ou ma mb) k_X_87 (rc_X hK hP) ⟨by decide, by decide⟩ rfl rfl (Nat.le_of_ble_eq_true rfl) ⟨Nat.le_refl _, Nat.le_refl _⟩ dX_storeAndGoBehind_9 (fun u H locs hw hP hD hS => ?_)
  obtain rfl := hw
  refine lv_aload_n S.1 S.2.1 dX_storeAndGoBehind_12 rfl (lv_at hl 0 rfl) ?_
  refine lv_aload_n S.1 S.2.1 dX_storeAndGoBehind_13 rfl (lv_at hl 0 rfl) ?_
  refine g_X_X_ma S hK hP dX_storeAndGoBehind_14 ?_
  refine lv_iconst (v := 1) S.1 S.2.1 dX_storeAndGoBehind_17 (by decide) ?_
  refine lv_iadd S.1 S.2.1 dX_storeAndGoBehind_18 ?_
  refine lv_sipush (v := 4095) S.1 S.2.1 dX_storeAndGoBehind_19 (by decide) ?_
  refine lv_iand S.1 S.2.1 dX_storeAndGoBehind_22 ?_
  refine p_X_X_pc S hK hP hD hS dX_storeAndGoBehind_23 (fun H locs hP hD hS => ?_)
  refine lv_iconst (v := 0) S.1 S.2.1 dX_storeAndGoBehind_26 (by decide) ?_
  exact rt_i S hr hk hK hP hD hS ((by simp [mu15])) dX_storeAndGoBehind_27

set_option maxHeartbeats 4000000 in
set_option maxRecDepth 100000 in
theorem c_X_andOperand (l : Launch) (D : va_G) (a : AX) (sz : Nat) (pc ac lk mq ma mb ir sw io dl ha rd sn md kf kb cn pf : Int32) (co ou : Nat → Int32) : MI l D (wx a) (tx a) sz yX_andOperand cX_andOperand 1 (some .int) 0 [.ref a.1] (pc, ac, lk, mq, ma, mb, ir, sw, io, dl, ha, rd, sn, md, kf, kb, cn, pf, co, ou) (fun r u => (r, u) = mu16 (pc, ac, lk, mq, ma, mb, ir, sw, io, dl, ha, rd, sn, md, kf, kb, cn, pf, co, ou)) := by
  refine en_i RX rfl (by decide) (Nat.le_of_ble_eq_true rfl) ?_
  intro p e s m below meth c A ls S hr hk hA hN hK hP hD hS hl
  have hl : lv_has ls 1 [(0, .ref a.1)] := hl
  refine lv_aload_n S.1 S.2.1 dX_andOperand_0 rfl (lv_at hl 0 rfl) ?_
  refine lv_dup S.1 S.2.1 dX_andOperand_1 rfl ?_
  refine g_X_X_ac S hK hP dX_andOperand_2 ?_
  refine lv_aload_n S.1 S.2.1 dX_andOperand_5 rfl (lv_at hl 0 rfl) ?_
  refine g_X_X_mb S hK hP dX_andOperand_6 ?_
  refine lv_iand S.1 S.2.1 dX_andOperand_9 ?_
  refine p_X_X_ac S hK hP hD hS dX_andOperand_10 (fun H locs hP hD hS => ?_)
  refine lv_iconst (v := 0) S.1 S.2.1 dX_andOperand_13 (by decide) ?_
  exact rt_i S hr hk hK hP hD hS ((by simp [mu16])) dX_andOperand_14

set_option maxHeartbeats 4000000 in
set_option maxRecDepth 100000 in
theorem c_X_addOperand (l : Launch) (D : va_G) (a : AX) (sz : Nat) (pc ac lk mq ma mb ir sw io dl ha rd sn md kf kb cn pf : Int32) (co ou : Nat → Int32) : MI l D (wx a) (tx a) sz yX_addOperand cX_addOperand 1 (some .int) 2 [.ref a.1] (pc, ac, lk, mq, ma, mb, ir, sw, io, dl, ha, rd, sn, md, kf, kb, cn, pf, co, ou) (fun r u => (r, u) = mu17 (pc, ac, lk, mq, ma, mb, ir, sw, io, dl, ha, rd, sn, md, kf, kb, cn, pf, co, ou)) := by
  refine en_i RX rfl (by decide) (Nat.le_of_ble_eq_true rfl) ?_
  intro p e s m below meth c A ls S hr hk hA hN hK hP hD hS hl
  have hl : lv_has ls 1 [(0, .ref a.1)] := hl
  refine lv_aload_n S.1 S.2.1 dX_addOperand_0 rfl (lv_at hl 0 rfl) ?_
  refine lv_aload_n S.1 S.2.1 dX_addOperand_1 rfl (lv_at hl 0 rfl) ?_
  refine g_X_X_mb S hK hP dX_addOperand_2 ?_
  refine cl_v (As := [.int mb]) (rest := []) S hN hK hP hD hS hA hl.1 (c_X_addToAc l D a _ pc ac lk mq ma mb ir sw io dl ha rd sn md kf kb cn pf co ou mb) k_X_239 (rc_X hK hP) ⟨by decide, by decide⟩ rfl rfl (Nat.le_of_ble_eq_true rfl) ⟨Nat.le_refl _, Nat.le_refl _⟩ dX_addOperand_5 (fun u H locs hw hP hD hS => ?_)
  obtain ⟨g1, rfl⟩ | ⟨g2, rfl⟩ := hw
  · refine lv_iconst (v := 0) S.1 S.2.1 dX_addOperand_8 (by decide) ?_
    exact rt_i S hr hk hK hP hD hS ((by simp [mu17, g1])) dX_addOperand_9
  · refine lv_iconst (v := 0) S.1 S.2.1 dX_addOperand_8 (by decide) ?_
    exact rt_i S hr hk hK hP hD hS ((by simp [mu17, g2])) dX_addOperand_9

set_option maxHeartbeats 4000000 in
set_option maxRecDepth 100000 in
theorem c_X_storeAndSkipIfZero (l : Launch) (D : va_G) (a : AX) (sz : Nat) (pc ac lk mq ma mb ir sw io dl ha rd sn md kf kb cn pf : Int32) (co ou : Nat → Int32) : MI l D (wx a) (tx a) sz yX_storeAndSkipIfZero cX_storeAndSkipIfZero 1 (some .int) 1 [.ref a.1] (pc, ac, lk, mq, ma, mb, ir, sw, io, dl, ha, rd, sn, md, kf, kb, cn, pf, co, ou) (fun r u => (r, u) = mu18 (pc, ac, lk, mq, ma, mb, ir, sw, io, dl, ha, rd, sn, md, kf, kb, cn, pf, co, ou)) := by
  refine en_i RX rfl (by decide) (Nat.le_of_ble_eq_true rfl) ?_
  intro p e s m below meth c A ls S hr hk hA hN hK hP hD hS hl
  have hl : lv_has ls 1 [(0, .ref a.1)] := hl
  refine lv_aload_n S.1 S.2.1 dX_storeAndSkipIfZero_0 rfl (lv_at hl 0 rfl) ?_
  refine lv_aload_n S.1 S.2.1 dX_storeAndSkipIfZero_1 rfl (lv_at hl 0 rfl) ?_
  refine g_X_X_ma S hK hP dX_storeAndSkipIfZero_2 ?_
  refine lv_aload_n S.1 S.2.1 dX_storeAndSkipIfZero_5 rfl (lv_at hl 0 rfl) ?_
  refine g_X_X_mb S hK hP dX_storeAndSkipIfZero_6 ?_
  refine cl_v (As := [.int ma, .int mb]) (rest := []) S hN hK hP hD hS hA hl.1 (c_X_write l D a _ pc ac lk mq ma mb ir sw io dl ha rd sn md kf kb cn pf co ou ma mb) k_X_87 (rc_X hK hP) ⟨by decide, by decide⟩ rfl rfl (Nat.le_of_ble_eq_true rfl) ⟨Nat.le_refl _, Nat.le_refl _⟩ dX_storeAndSkipIfZero_9 (fun u H locs hw hP hD hS => ?_)
  obtain rfl := hw
  refine lv_aload_n S.1 S.2.1 dX_storeAndSkipIfZero_12 rfl (lv_at hl 0 rfl) ?_
  refine g_X_X_mb S hK hP dX_storeAndSkipIfZero_13 ?_
  refine lv_if_ne (tgt := 23) S.1 S.2.1 dX_storeAndSkipIfZero_16 (by decide) (fun g1 => ?_) (fun g1 => ?_)
  · refine lv_iconst (v := 0) S.1 S.2.1 dX_storeAndSkipIfZero_23 (by decide) ?_
    exact rt_i S hr hk hK hP hD hS ((by simp [mu18, g1])) dX_storeAndSkipIfZero_24
  · refine lv_aload_n S.1 S.2.1 dX_storeAndSkipIfZero_19 rfl (lv_at hl 0 rfl) ?_
    refine cl_v (As := []) (rest := []) S hN hK hP hD hS hA hl.1 (c_X_advancePc l D a _ pc ac lk mq ma mb ir sw io dl ha rd sn md kf kb cn pf (upd co (ma &&& 4095).toNatClampNeg (mb &&& 4095)) ou ) k_X_230 (rc_X hK hP) ⟨by decide, by decide⟩ rfl rfl (Nat.le_of_ble_eq_true rfl) ⟨Nat.le_refl _, Nat.le_refl _⟩ dX_storeAndSkipIfZero_20 (fun u H locs hw hP hD hS => ?_)
    obtain rfl := hw
    refine lv_iconst (v := 0) S.1 S.2.1 dX_storeAndSkipIfZero_23 (by decide) ?_
    exact rt_i S hr hk hK hP hD hS ((by simp [mu18, g1])) dX_storeAndSkipIfZero_24

set_option maxHeartbeats 4000000 in
set_option maxRecDepth 100000 in
theorem c_X_storeAndClear (l : Launch) (D : va_G) (a : AX) (sz : Nat) (pc ac lk mq ma mb ir sw io dl ha rd sn md kf kb cn pf : Int32) (co ou : Nat → Int32) : MI l D (wx a) (tx a) sz yX_storeAndClear cX_storeAndClear 1 (some .int) 1 [.ref a.1] (pc, ac, lk, mq, ma, mb, ir, sw, io, dl, ha, rd, sn, md, kf, kb, cn, pf, co, ou) (fun r u => (r, u) = mu19 (pc, ac, lk, mq, ma, mb, ir, sw, io, dl, ha, rd, sn, md, kf, kb, cn, pf, co, ou)) := by
  refine en_i RX rfl (by decide) (Nat.le_of_ble_eq_true rfl) ?_
  intro p e s m below meth c A ls S hr hk hA hN hK hP hD hS hl
  have hl : lv_has ls 1 [(0, .ref a.1)] := hl
  refine lv_aload_n S.1 S.2.1 dX_storeAndClear_0 rfl (lv_at hl 0 rfl) ?_
  refine lv_aload_n S.1 S.2.1 dX_storeAndClear_1 rfl (lv_at hl 0 rfl) ?_
  refine g_X_X_ma S hK hP dX_storeAndClear_2 ?_
  refine lv_aload_n S.1 S.2.1 dX_storeAndClear_5 rfl (lv_at hl 0 rfl) ?_
  refine g_X_X_mb S hK hP dX_storeAndClear_6 ?_
  refine cl_v (As := [.int ma, .int mb]) (rest := []) S hN hK hP hD hS hA hl.1 (c_X_write l D a _ pc ac lk mq ma mb ir sw io dl ha rd sn md kf kb cn pf co ou ma mb) k_X_87 (rc_X hK hP) ⟨by decide, by decide⟩ rfl rfl (Nat.le_of_ble_eq_true rfl) ⟨Nat.le_refl _, Nat.le_refl _⟩ dX_storeAndClear_9 (fun u H locs hw hP hD hS => ?_)
  obtain rfl := hw
  refine lv_aload_n S.1 S.2.1 dX_storeAndClear_12 rfl (lv_at hl 0 rfl) ?_
  refine lv_iconst (v := 0) S.1 S.2.1 dX_storeAndClear_13 (by decide) ?_
  refine p_X_X_ac S hK hP hD hS dX_storeAndClear_14 (fun H locs hP hD hS => ?_)
  refine lv_iconst (v := 0) S.1 S.2.1 dX_storeAndClear_17 (by decide) ?_
  exact rt_i S hr hk hK hP hD hS ((by simp [mu19])) dX_storeAndClear_18

set_option maxHeartbeats 4000000 in
set_option maxRecDepth 100000 in
theorem c_X_chooseOperateGroup (l : Launch) (D : va_G) (a : AX) (sz : Nat) (pc ac lk mq ma mb ir sw io dl ha rd sn md kf kb cn pf : Int32) (co ou : Nat → Int32) : MI l D (wx a) (tx a) sz yX_chooseOperateGroup cX_chooseOperateGroup 1 (some .int) 1 [.ref a.1] (pc, ac, lk, mq, ma, mb, ir, sw, io, dl, ha, rd, sn, md, kf, kb, cn, pf, co, ou) (fun r u => (r, u) = mu20 (pc, ac, lk, mq, ma, mb, ir, sw, io, dl, ha, rd, sn, md, kf, kb, cn, pf, co, ou)) := by
  refine en_i RX rfl (by decide) (Nat.le_of_ble_eq_true rfl) ?_
  intro p e s m below meth c A ls S hr hk hA hN hK hP hD hS hl
  have hl : lv_has ls 1 [(0, .ref a.1)] := hl
  refine lv_aload_n S.1 S.2.1 dX_chooseOperateGroup_0 rfl (lv_at hl 0 rfl) ?_
  refine lv_sipush (v := 256) S.1 S.2.1 dX_chooseOperateGroup_1 (by decide) ?_
  refine cl_i (As := [.int 256]) (rest := []) S hN hK hP hD hS hA hl.1 (c_X_irHas l D a _ pc ac lk mq ma mb ir sw io dl ha rd sn md kf kb cn pf co ou 256) k_X_233 (rc_X hK hP) ⟨by decide, by decide⟩ rfl rfl (Nat.le_of_ble_eq_true rfl) ⟨Nat.le_refl _, Nat.le_refl _⟩ dX_chooseOperateGroup_4 (fun r u H locs hw hP hD hS => ?_)
  obtain ⟨g1, rfl, rfl⟩ | ⟨g2, rfl, rfl⟩ := hw
  · refine lv_if_ne (tgt := 13) S.1 S.2.1 dX_chooseOperateGroup_7 (by decide) (fun g3 => absurd (by decide) g3) (fun _ => ?_)
    refine lv_bipush (v := 21) S.1 S.2.1 dX_chooseOperateGroup_10 (by decide) ?_
    exact rt_i S hr hk hK hP hD hS ((by simp [mu20, g1])) dX_chooseOperateGroup_12
  · refine lv_if_ne (tgt := 13) S.1 S.2.1 dX_chooseOperateGroup_7 (by decide) (fun _ => ?_) (fun g4 => absurd g4 (by decide))
    refine lv_aload_n S.1 S.2.1 dX_chooseOperateGroup_13 rfl (lv_at hl 0 rfl) ?_
    refine lv_iconst (v := 1) S.1 S.2.1 dX_chooseOperateGroup_14 (by decide) ?_
    refine cl_i (As := [.int 1]) (rest := []) S hN hK hP hD hS hA hl.1 (c_X_irHas l D a _ pc ac lk mq ma mb ir sw io dl ha rd sn md kf kb cn pf co ou 1) k_X_233 (rc_X hK hP) ⟨by decide, by decide⟩ rfl rfl (Nat.le_of_ble_eq_true rfl) ⟨Nat.le_refl _, Nat.le_refl _⟩ dX_chooseOperateGroup_15 (fun r u H locs hw hP hD hS => ?_)
    obtain ⟨g5, rfl, rfl⟩ | ⟨g6, rfl, rfl⟩ := hw
    · refine lv_if_eq (tgt := 26) S.1 S.2.1 dX_chooseOperateGroup_18 (by decide) (fun _ => ?_) (fun g7 => absurd (by decide) g7)
      refine lv_bipush (v := 26) S.1 S.2.1 dX_chooseOperateGroup_26 (by decide) ?_
      exact rt_i S hr hk hK hP hD hS ((by simp [mu20, g2, g5])) dX_chooseOperateGroup_28
    · refine lv_if_eq (tgt := 26) S.1 S.2.1 dX_chooseOperateGroup_18 (by decide) (fun g8 => absurd g8 (by decide)) (fun _ => ?_)
      refine lv_bipush (v := 30) S.1 S.2.1 dX_chooseOperateGroup_21 (by decide) ?_
      refine lv_goto (tgt := 28) S.1 S.2.1 dX_chooseOperateGroup_23 (by decide) ?_
      exact rt_i S hr hk hK hP hD hS ((by simp [mu20, g2, g6])) dX_chooseOperateGroup_28

set_option maxHeartbeats 4000000 in
set_option maxRecDepth 100000 in
theorem c_X_clear (l : Launch) (D : va_G) (a : AX) (sz : Nat) (pc ac lk mq ma mb ir sw io dl ha rd sn md kf kb cn pf : Int32) (co ou : Nat → Int32) : MI l D (wx a) (tx a) sz yX_clear cX_clear 1 (some .int) 2 [.ref a.1] (pc, ac, lk, mq, ma, mb, ir, sw, io, dl, ha, rd, sn, md, kf, kb, cn, pf, co, ou) (fun r u => (r, u) = mu21 (pc, ac, lk, mq, ma, mb, ir, sw, io, dl, ha, rd, sn, md, kf, kb, cn, pf, co, ou)) := by
  refine en_i RX rfl (by decide) (Nat.le_of_ble_eq_true rfl) ?_
  intro p e s m below meth c A ls S hr hk hA hN hK hP hD hS hl
  have hl : lv_has ls 1 [(0, .ref a.1)] := hl
  refine lv_aload_n S.1 S.2.1 dX_clear_0 rfl (lv_at hl 0 rfl) ?_
  refine cl_v (As := []) (rest := []) S hN hK hP hD hS hA hl.1 (c_X_clearAcIfAsked l D a _ pc ac lk mq ma mb ir sw io dl ha rd sn md kf kb cn pf co ou ) k_X_245 (rc_X hK hP) ⟨by decide, by decide⟩ rfl rfl (Nat.le_of_ble_eq_true rfl) ⟨Nat.le_refl _, Nat.le_refl _⟩ dX_clear_1 (fun u H locs hw hP hD hS => ?_)
  obtain ⟨g1, rfl⟩ | ⟨g2, rfl⟩ := hw
  · refine lv_aload_n S.1 S.2.1 dX_clear_4 rfl (lv_at hl 0 rfl) ?_
    refine lv_bipush (v := 64) S.1 S.2.1 dX_clear_5 (by decide) ?_
    refine cl_i (As := [.int 64]) (rest := []) S hN hK hP hD hS hA hl.1 (c_X_irHas l D a _ pc ac lk mq ma mb ir sw io dl ha rd sn md kf kb cn pf co ou 64) k_X_233 (rc_X hK hP) ⟨by decide, by decide⟩ rfl rfl (Nat.le_of_ble_eq_true rfl) ⟨Nat.le_refl _, Nat.le_refl _⟩ dX_clear_7 (fun r u H locs hw hP hD hS => ?_)
    obtain ⟨g3, rfl, rfl⟩ | ⟨g4, rfl, rfl⟩ := hw
    · refine lv_if_eq (tgt := 18) S.1 S.2.1 dX_clear_10 (by decide) (fun _ => ?_) (fun g5 => absurd (by decide) g5)
      refine lv_bipush (v := 22) S.1 S.2.1 dX_clear_18 (by decide) ?_
      exact rt_i S hr hk hK hP hD hS ((by simp [mu21, g1, g3])) dX_clear_20
    · refine lv_if_eq (tgt := 18) S.1 S.2.1 dX_clear_10 (by decide) (fun g6 => absurd g6 (by decide)) (fun _ => ?_)
      refine lv_aload_n S.1 S.2.1 dX_clear_13 rfl (lv_at hl 0 rfl) ?_
      refine lv_iconst (v := 0) S.1 S.2.1 dX_clear_14 (by decide) ?_
      refine p_X_X_link S hK hP hD hS dX_clear_15 (fun H locs hP hD hS => ?_)
      refine lv_bipush (v := 22) S.1 S.2.1 dX_clear_18 (by decide) ?_
      exact rt_i S hr hk hK hP hD hS ((by simp [mu21, g1, g4])) dX_clear_20
  · refine lv_aload_n S.1 S.2.1 dX_clear_4 rfl (lv_at hl 0 rfl) ?_
    refine lv_bipush (v := 64) S.1 S.2.1 dX_clear_5 (by decide) ?_
    refine cl_i (As := [.int 64]) (rest := []) S hN hK hP hD hS hA hl.1 (c_X_irHas l D a _ pc 0 lk mq ma mb ir sw io dl ha rd sn md kf kb cn pf co ou 64) k_X_233 (rc_X hK hP) ⟨by decide, by decide⟩ rfl rfl (Nat.le_of_ble_eq_true rfl) ⟨Nat.le_refl _, Nat.le_refl _⟩ dX_clear_7 (fun r u H locs hw hP hD hS => ?_)
    obtain ⟨g7, rfl, rfl⟩ | ⟨g8, rfl, rfl⟩ := hw
    · refine lv_if_eq (tgt := 18) S.1 S.2.1 dX_clear_10 (by decide) (fun _ => ?_) (fun g9 => absurd (by decide) g9)
      refine lv_bipush (v := 22) S.1 S.2.1 dX_clear_18 (by decide) ?_
      exact rt_i S hr hk hK hP hD hS ((by simp [mu21, g2, g7])) dX_clear_20
    · refine lv_if_eq (tgt := 18) S.1 S.2.1 dX_clear_10 (by decide) (fun g10 => absurd g10 (by decide)) (fun _ => ?_)
      refine lv_aload_n S.1 S.2.1 dX_clear_13 rfl (lv_at hl 0 rfl) ?_
      refine lv_iconst (v := 0) S.1 S.2.1 dX_clear_14 (by decide) ?_
      refine p_X_X_link S hK hP hD hS dX_clear_15 (fun H locs hP hD hS => ?_)
      refine lv_bipush (v := 22) S.1 S.2.1 dX_clear_18 (by decide) ?_
      exact rt_i S hr hk hK hP hD hS ((by simp [mu21, g2, g8])) dX_clear_20

set_option maxHeartbeats 4000000 in
set_option maxRecDepth 100000 in
theorem c_X_complement (l : Launch) (D : va_G) (a : AX) (sz : Nat) (pc ac lk mq ma mb ir sw io dl ha rd sn md kf kb cn pf : Int32) (co ou : Nat → Int32) : MI l D (wx a) (tx a) sz yX_complement cX_complement 1 (some .int) 1 [.ref a.1] (pc, ac, lk, mq, ma, mb, ir, sw, io, dl, ha, rd, sn, md, kf, kb, cn, pf, co, ou) (fun r u => (r, u) = mu22 (pc, ac, lk, mq, ma, mb, ir, sw, io, dl, ha, rd, sn, md, kf, kb, cn, pf, co, ou)) := by
  refine en_i RX rfl (by decide) (Nat.le_of_ble_eq_true rfl) ?_
  intro p e s m below meth c A ls S hr hk hA hN hK hP hD hS hl
  have hl : lv_has ls 1 [(0, .ref a.1)] := hl
  refine lv_aload_n S.1 S.2.1 dX_complement_0 rfl (lv_at hl 0 rfl) ?_
  refine lv_bipush (v := 32) S.1 S.2.1 dX_complement_1 (by decide) ?_
  refine cl_i (As := [.int 32]) (rest := []) S hN hK hP hD hS hA hl.1 (c_X_irHas l D a _ pc ac lk mq ma mb ir sw io dl ha rd sn md kf kb cn pf co ou 32) k_X_233 (rc_X hK hP) ⟨by decide, by decide⟩ rfl rfl (Nat.le_of_ble_eq_true rfl) ⟨Nat.le_refl _, Nat.le_refl _⟩ dX_complement_3 (fun r u H locs hw hP hD hS => ?_)
  obtain ⟨g1, rfl, rfl⟩ | ⟨g2, rfl, rfl⟩ := hw
  · refine lv_if_eq (tgt := 21) S.1 S.2.1 dX_complement_6 (by decide) (fun _ => ?_) (fun g3 => absurd (by decide) g3)
    refine lv_aload_n S.1 S.2.1 dX_complement_21 rfl (lv_at hl 0 rfl) ?_
    refine lv_bipush (v := 16) S.1 S.2.1 dX_complement_22 (by decide) ?_
    refine cl_i (As := [.int 16]) (rest := []) S hN hK hP hD hS hA hl.1 (c_X_irHas l D a _ pc ac lk mq ma mb ir sw io dl ha rd sn md kf kb cn pf co ou 16) k_X_233 (rc_X hK hP) ⟨by decide, by decide⟩ rfl rfl (Nat.le_of_ble_eq_true rfl) ⟨Nat.le_refl _, Nat.le_refl _⟩ dX_complement_24 (fun r u H locs hw hP hD hS => ?_)
    obtain ⟨g4, rfl, rfl⟩ | ⟨g5, rfl, rfl⟩ := hw
    · refine lv_if_eq (tgt := 34) S.1 S.2.1 dX_complement_27 (by decide) (fun _ => ?_) (fun g6 => absurd (by decide) g6)
      refine lv_bipush (v := 23) S.1 S.2.1 dX_complement_34 (by decide) ?_
      exact rt_i S hr hk hK hP hD hS ((by simp [mu22, g1, g4])) dX_complement_36
    · refine lv_if_eq (tgt := 34) S.1 S.2.1 dX_complement_27 (by decide) (fun g7 => absurd g7 (by decide)) (fun _ => ?_)
      refine lv_aload_n S.1 S.2.1 dX_complement_30 rfl (lv_at hl 0 rfl) ?_
      refine cl_v (As := []) (rest := []) S hN hK hP hD hS hA hl.1 (c_X_turnLinkOver l D a _ pc ac lk mq ma mb ir sw io dl ha rd sn md kf kb cn pf co ou ) k_X_242 (rc_X hK hP) ⟨by decide, by decide⟩ rfl rfl (Nat.le_of_ble_eq_true rfl) ⟨Nat.le_refl _, Nat.le_refl _⟩ dX_complement_31 (fun u H locs hw hP hD hS => ?_)
      obtain rfl := hw
      refine lv_bipush (v := 23) S.1 S.2.1 dX_complement_34 (by decide) ?_
      exact rt_i S hr hk hK hP hD hS ((by simp [mu22, g1, g5])) dX_complement_36
  · refine lv_if_eq (tgt := 21) S.1 S.2.1 dX_complement_6 (by decide) (fun g8 => absurd g8 (by decide)) (fun _ => ?_)
    refine lv_aload_n S.1 S.2.1 dX_complement_9 rfl (lv_at hl 0 rfl) ?_
    refine lv_sipush (v := 4095) S.1 S.2.1 dX_complement_10 (by decide) ?_
    refine lv_aload_n S.1 S.2.1 dX_complement_13 rfl (lv_at hl 0 rfl) ?_
    refine g_X_X_ac S hK hP dX_complement_14 ?_
    refine lv_isub S.1 S.2.1 dX_complement_17 ?_
    refine p_X_X_ac S hK hP hD hS dX_complement_18 (fun H locs hP hD hS => ?_)
    refine lv_aload_n S.1 S.2.1 dX_complement_21 rfl (lv_at hl 0 rfl) ?_
    refine lv_bipush (v := 16) S.1 S.2.1 dX_complement_22 (by decide) ?_
    refine cl_i (As := [.int 16]) (rest := []) S hN hK hP hD hS hA hl.1 (c_X_irHas l D a _ pc (4095 - ac) lk mq ma mb ir sw io dl ha rd sn md kf kb cn pf co ou 16) k_X_233 (rc_X hK hP) ⟨by decide, by decide⟩ rfl rfl (Nat.le_of_ble_eq_true rfl) ⟨Nat.le_refl _, Nat.le_refl _⟩ dX_complement_24 (fun r u H locs hw hP hD hS => ?_)
    obtain ⟨g9, rfl, rfl⟩ | ⟨g10, rfl, rfl⟩ := hw
    · refine lv_if_eq (tgt := 34) S.1 S.2.1 dX_complement_27 (by decide) (fun _ => ?_) (fun g11 => absurd (by decide) g11)
      refine lv_bipush (v := 23) S.1 S.2.1 dX_complement_34 (by decide) ?_
      exact rt_i S hr hk hK hP hD hS ((by simp [mu22, g2, g9])) dX_complement_36
    · refine lv_if_eq (tgt := 34) S.1 S.2.1 dX_complement_27 (by decide) (fun g12 => absurd g12 (by decide)) (fun _ => ?_)
      refine lv_aload_n S.1 S.2.1 dX_complement_30 rfl (lv_at hl 0 rfl) ?_
      refine cl_v (As := []) (rest := []) S hN hK hP hD hS hA hl.1 (c_X_turnLinkOver l D a _ pc (4095 - ac) lk mq ma mb ir sw io dl ha rd sn md kf kb cn pf co ou ) k_X_242 (rc_X hK hP) ⟨by decide, by decide⟩ rfl rfl (Nat.le_of_ble_eq_true rfl) ⟨Nat.le_refl _, Nat.le_refl _⟩ dX_complement_31 (fun u H locs hw hP hD hS => ?_)
      obtain rfl := hw
      refine lv_bipush (v := 23) S.1 S.2.1 dX_complement_34 (by decide) ?_
      exact rt_i S hr hk hK hP hD hS ((by simp [mu22, g2, g10])) dX_complement_36

set_option maxHeartbeats 4000000 in
set_option maxRecDepth 100000 in
theorem c_X_increment (l : Launch) (D : va_G) (a : AX) (sz : Nat) (pc ac lk mq ma mb ir sw io dl ha rd sn md kf kb cn pf : Int32) (co ou : Nat → Int32) : MI l D (wx a) (tx a) sz yX_increment cX_increment 1 (some .int) 2 [.ref a.1] (pc, ac, lk, mq, ma, mb, ir, sw, io, dl, ha, rd, sn, md, kf, kb, cn, pf, co, ou) (fun r u => (r, u) = mu23 (pc, ac, lk, mq, ma, mb, ir, sw, io, dl, ha, rd, sn, md, kf, kb, cn, pf, co, ou)) := by
  refine en_i RX rfl (by decide) (Nat.le_of_ble_eq_true rfl) ?_
  intro p e s m below meth c A ls S hr hk hA hN hK hP hD hS hl
  have hl : lv_has ls 1 [(0, .ref a.1)] := hl
  refine lv_aload_n S.1 S.2.1 dX_increment_0 rfl (lv_at hl 0 rfl) ?_
  refine lv_iconst (v := 1) S.1 S.2.1 dX_increment_1 (by decide) ?_
  refine cl_i (As := [.int 1]) (rest := []) S hN hK hP hD hS hA hl.1 (c_X_irHas l D a _ pc ac lk mq ma mb ir sw io dl ha rd sn md kf kb cn pf co ou 1) k_X_233 (rc_X hK hP) ⟨by decide, by decide⟩ rfl rfl (Nat.le_of_ble_eq_true rfl) ⟨Nat.le_refl _, Nat.le_refl _⟩ dX_increment_2 (fun r u H locs hw hP hD hS => ?_)
  obtain ⟨g1, rfl, rfl⟩ | ⟨g2, rfl, rfl⟩ := hw
  · refine lv_if_eq (tgt := 13) S.1 S.2.1 dX_increment_5 (by decide) (fun _ => ?_) (fun g3 => absurd (by decide) g3)
    refine lv_aload_n S.1 S.2.1 dX_increment_13 rfl (lv_at hl 0 rfl) ?_
    refine lv_bipush (v := 12) S.1 S.2.1 dX_increment_14 (by decide) ?_
    refine cl_i (As := [.int 12]) (rest := []) S hN hK hP hD hS hA hl.1 (c_X_irHas l D a _ pc ac lk mq ma mb ir sw io dl ha rd sn md kf kb cn pf co ou 12) k_X_233 (rc_X hK hP) ⟨by decide, by decide⟩ rfl rfl (Nat.le_of_ble_eq_true rfl) ⟨Nat.le_refl _, Nat.le_refl _⟩ dX_increment_16 (fun r u H locs hw hP hD hS => ?_)
    obtain ⟨g4, rfl, rfl⟩ | ⟨g5, rfl, rfl⟩ := hw
    · refine lv_if_eq (tgt := 27) S.1 S.2.1 dX_increment_19 (by decide) (fun _ => ?_) (fun g6 => absurd (by decide) g6)
      refine lv_iconst (v := 0) S.1 S.2.1 dX_increment_27 (by decide) ?_
      exact rt_i S hr hk hK hP hD hS ((by simp [mu23, g1, g4])) dX_increment_28
    · refine lv_if_eq (tgt := 27) S.1 S.2.1 dX_increment_19 (by decide) (fun g7 => absurd g7 (by decide)) (fun _ => ?_)
      refine lv_bipush (v := 24) S.1 S.2.1 dX_increment_22 (by decide) ?_
      refine lv_goto (tgt := 28) S.1 S.2.1 dX_increment_24 (by decide) ?_
      exact rt_i S hr hk hK hP hD hS ((by simp [mu23, g1, g5])) dX_increment_28
  · refine lv_if_eq (tgt := 13) S.1 S.2.1 dX_increment_5 (by decide) (fun g8 => absurd g8 (by decide)) (fun _ => ?_)
    refine lv_aload_n S.1 S.2.1 dX_increment_8 rfl (lv_at hl 0 rfl) ?_
    refine lv_iconst (v := 1) S.1 S.2.1 dX_increment_9 (by decide) ?_
    refine cl_v (As := [.int 1]) (rest := []) S hN hK hP hD hS hA hl.1 (c_X_addToAc l D a _ pc ac lk mq ma mb ir sw io dl ha rd sn md kf kb cn pf co ou 1) k_X_239 (rc_X hK hP) ⟨by decide, by decide⟩ rfl rfl (Nat.le_of_ble_eq_true rfl) ⟨Nat.le_refl _, Nat.le_refl _⟩ dX_increment_10 (fun u H locs hw hP hD hS => ?_)
    obtain ⟨g9, rfl⟩ | ⟨g10, rfl⟩ := hw
    · refine lv_aload_n S.1 S.2.1 dX_increment_13 rfl (lv_at hl 0 rfl) ?_
      refine lv_bipush (v := 12) S.1 S.2.1 dX_increment_14 (by decide) ?_
      refine cl_i (As := [.int 12]) (rest := []) S hN hK hP hD hS hA hl.1 (c_X_irHas l D a _ pc ((ac + 1) &&& 4095) lk mq ma mb ir sw io dl ha rd sn md kf kb cn pf co ou 12) k_X_233 (rc_X hK hP) ⟨by decide, by decide⟩ rfl rfl (Nat.le_of_ble_eq_true rfl) ⟨Nat.le_refl _, Nat.le_refl _⟩ dX_increment_16 (fun r u H locs hw hP hD hS => ?_)
      obtain ⟨g11, rfl, rfl⟩ | ⟨g12, rfl, rfl⟩ := hw
      · refine lv_if_eq (tgt := 27) S.1 S.2.1 dX_increment_19 (by decide) (fun _ => ?_) (fun g13 => absurd (by decide) g13)
        refine lv_iconst (v := 0) S.1 S.2.1 dX_increment_27 (by decide) ?_
        exact rt_i S hr hk hK hP hD hS ((by simp [mu23, g2, g9, g11])) dX_increment_28
      · refine lv_if_eq (tgt := 27) S.1 S.2.1 dX_increment_19 (by decide) (fun g14 => absurd g14 (by decide)) (fun _ => ?_)
        refine lv_bipush (v := 24) S.1 S.2.1 dX_increment_22 (by decide) ?_
        refine lv_goto (tgt := 28) S.1 S.2.1 dX_increment_24 (by decide) ?_
        exact rt_i S hr hk hK hP hD hS ((by simp [mu23, g2, g9, g12])) dX_increment_28
    · refine lv_aload_n S.1 S.2.1 dX_increment_13 rfl (lv_at hl 0 rfl) ?_
      refine lv_bipush (v := 12) S.1 S.2.1 dX_increment_14 (by decide) ?_
      refine cl_i (As := [.int 12]) (rest := []) S hN hK hP hD hS hA hl.1 (c_X_irHas l D a _ pc ((ac + 1) &&& 4095) (1 - lk) mq ma mb ir sw io dl ha rd sn md kf kb cn pf co ou 12) k_X_233 (rc_X hK hP) ⟨by decide, by decide⟩ rfl rfl (Nat.le_of_ble_eq_true rfl) ⟨Nat.le_refl _, Nat.le_refl _⟩ dX_increment_16 (fun r u H locs hw hP hD hS => ?_)
      obtain ⟨g15, rfl, rfl⟩ | ⟨g16, rfl, rfl⟩ := hw
      · refine lv_if_eq (tgt := 27) S.1 S.2.1 dX_increment_19 (by decide) (fun _ => ?_) (fun g17 => absurd (by decide) g17)
        refine lv_iconst (v := 0) S.1 S.2.1 dX_increment_27 (by decide) ?_
        exact rt_i S hr hk hK hP hD hS ((by simp [mu23, g2, g10, g15])) dX_increment_28
      · refine lv_if_eq (tgt := 27) S.1 S.2.1 dX_increment_19 (by decide) (fun g18 => absurd g18 (by decide)) (fun _ => ?_)
        refine lv_bipush (v := 24) S.1 S.2.1 dX_increment_22 (by decide) ?_
        refine lv_goto (tgt := 28) S.1 S.2.1 dX_increment_24 (by decide) ?_
        exact rt_i S hr hk hK hP hD hS ((by simp [mu23, g2, g10, g16])) dX_increment_28
