set_option maxHeartbeats 4000000 in
set_option maxRecDepth 100000 in
theorem c_X_load_1 (l : Launch) (D : va_G) (a : AX) (sz : Nat) (pc ac lk mq ma mb ir sw io dl ha rd sn md kf kb cn pf : Int32) (co ou : Nat → Int32) (x : Int32) (w : Int64) : MI l D (wx a) (tx a) sz yX_load cX_load 6 (some .boolean) 1 [.ref a.1, .int x, .int 1, .long w] (pc, ac, lk, mq, ma, mb, ir, sw, io, dl, ha, rd, sn, md, kf, kb, cn, pf, co, ou) (fun r u => (r, u) = ldf x 1 w (pc, ac, lk, mq, ma, mb, ir, sw, io, dl, ha, rd, sn, md, kf, kb, cn, pf, co, ou)) := by
  refine en_i RX rfl (by decide) (Nat.le_of_ble_eq_true rfl) ?_
  intro p e s m below meth c A ls S hr hk hA hN hK hP hD hS hl
  have hl : lv_has ls 6 [(0, .ref a.1), (1, .int x), (2, .int 1), (3, .long w)] := hl
  refine lv_iload_n S.1 S.2.1 dX_load_0 rfl (lv_at hl 2 rfl) ?_
  refine lv_iconst (v := 1) S.1 S.2.1 dX_load_1 (by decide) ?_
  refine lv_icmp_lt (tgt := 17) S.1 S.2.1 dX_load_2 (by decide) (fun g1 => absurd g1 (by decide)) (fun _ => ?_)
  refine lv_iload_n S.1 S.2.1 dX_load_5 rfl (lv_at hl 2 rfl) ?_
  refine lv_iconst (v := 5) S.1 S.2.1 dX_load_6 (by decide) ?_
  refine lv_icmp_gt (tgt := 17) S.1 S.2.1 dX_load_7 (by decide) (fun g2 => absurd g2 (by decide)) (fun _ => ?_)
  refine lv_iload_n S.1 S.2.1 dX_load_10 rfl (lv_at hl 1 rfl) ?_
  refine cl_iS (As := [.int x]) (rest := []) S hN hK hP hD hS hA hl.1 (c_X_isAddress l D a _ pc ac lk mq ma mb ir sw io dl ha rd sn md kf kb cn pf co ou x) k_X_83 ⟨by decide, by decide⟩ rfl rfl (Nat.le_of_ble_eq_true rfl) ⟨Nat.le_refl _, Nat.le_refl _⟩ dX_load_11 (fun r u H locs hw hP hD hS => ?_)
  obtain ⟨g3, rfl, rfl⟩ | ⟨g4, g5, rfl, rfl⟩ | ⟨g6, g7, rfl, rfl⟩ := hw
  · refine lv_if_ne (tgt := 19) S.1 S.2.1 dX_load_14 (by decide) (fun g8 => absurd (by decide) g8) (fun _ => ?_)
    refine lv_iconst (v := 0) S.1 S.2.1 dX_load_17 (by decide) ?_
    exact rt_z S hr hk hK hP hD hS rfl ((by simp [ldf, g3])) dX_load_18
  · refine lv_if_ne (tgt := 19) S.1 S.2.1 dX_load_14 (by decide) (fun g9 => absurd (by decide) g9) (fun _ => ?_)
    refine lv_iconst (v := 0) S.1 S.2.1 dX_load_17 (by decide) ?_
    exact rt_z S hr hk hK hP hD hS rfl ((by simp [ldf, g4, g5])) dX_load_18
  · refine lv_if_ne (tgt := 19) S.1 S.2.1 dX_load_14 (by decide) (fun _ => ?_) (fun g10 => absurd g10 (by decide))
    refine lv_iconst (v := 0) S.1 S.2.1 dX_load_19 (by decide) ?_
    refine lv_istore S.1 S.2.1 dX_load_20 hl (by decide) rfl (fun ls hl => ?_)
    have hl : lv_has ls 6 [(5, .int 0), (0, .ref a.1), (1, .int x), (2, .int 1), (3, .long w)] := hl
    refine lv_iload S.1 S.2.1 dX_load_22 (lv_at hl 0 rfl) ?_
    refine lv_iload_n S.1 S.2.1 dX_load_24 rfl (lv_at hl 3 rfl) ?_
    refine lv_icmp_ge (tgt := 54) S.1 S.2.1 dX_load_25 (by decide) (fun g11 => absurd g11 (by decide)) (fun _ => ?_)
    refine lv_aload_n S.1 S.2.1 dX_load_28 rfl (lv_at hl 1 rfl) ?_
    refine lv_iload_n S.1 S.2.1 dX_load_29 rfl (lv_at hl 2 rfl) ?_
    refine lv_iload S.1 S.2.1 dX_load_30 (lv_at hl 0 rfl) ?_
    refine lv_iadd S.1 S.2.1 dX_load_32 ?_
    refine lv_lload_n S.1 S.2.1 dX_load_33 rfl (lv_at hl 4 rfl) ?_
    refine lv_bipush (v := 12) S.1 S.2.1 dX_load_34 (by decide) ?_
    refine lv_iload_n S.1 S.2.1 dX_load_36 rfl (lv_at hl 3 rfl) ?_
    refine lv_iconst (v := 1) S.1 S.2.1 dX_load_37 (by decide) ?_
    refine lv_isub S.1 S.2.1 dX_load_38 ?_
    refine lv_iload S.1 S.2.1 dX_load_39 (lv_at hl 0 rfl) ?_
    refine lv_isub S.1 S.2.1 dX_load_41 ?_
    refine lv_imul S.1 S.2.1 dX_load_42 ?_
    refine lv_lushr S.1 S.2.1 dX_load_43 rfl ?_
    refine lv_l2i S.1 S.2.1 dX_load_44 rfl ?_
    refine cl_v (As := [.int (x + 0), .int (w.toUInt64 >>> (((12 * ((1 - 1) - 0)) : Int32).toInt64.toUInt64 &&& Int64.toUInt64 63)).toInt64.toInt32]) (rest := []) S hN hK hP hD hS hA hl.1 (c_X_write l D a _ pc ac lk mq ma mb ir sw io dl ha rd sn md kf kb cn pf co ou (x + 0) (w.toUInt64 >>> (((12 * ((1 - 1) - 0)) : Int32).toInt64.toUInt64 &&& Int64.toUInt64 63)).toInt64.toInt32) k_X_87 (rc_X hK hP) ⟨by decide, by decide⟩ rfl rfl (Nat.le_of_ble_eq_true rfl) ⟨Nat.le_refl _, Nat.le_refl _⟩ dX_load_45 (fun u H locs hw hP hD hS => ?_)
    obtain rfl := hw
    refine lv_iinc (k := 0) (v := 1) S.1 S.2.1 dX_load_48 hl rfl (by first | rfl | decide) (by decide) rfl (fun ls hl => ?_)
    have hl : lv_has ls 6 [(5, .int 1), (0, .ref a.1), (1, .int x), (2, .int 1), (3, .long w)] := hl
    refine lv_goto (tgt := 22) S.1 S.2.1 dX_load_51 (by decide) ?_
    refine lv_iload S.1 S.2.1 dX_load_22 (lv_at hl 0 rfl) ?_
    refine lv_iload_n S.1 S.2.1 dX_load_24 rfl (lv_at hl 3 rfl) ?_
    refine lv_icmp_ge (tgt := 54) S.1 S.2.1 dX_load_25 (by decide) (fun _ => ?_) (fun g12 => absurd (by decide) g12)
    refine lv_iconst (v := 1) S.1 S.2.1 dX_load_54 (by decide) ?_
    exact rt_z S hr hk hK hP hD hS rfl ((by simp [ldf, g6, g7])) dX_load_55

set_option maxHeartbeats 4000000 in
set_option maxRecDepth 100000 in
theorem c_X_load_2 (l : Launch) (D : va_G) (a : AX) (sz : Nat) (pc ac lk mq ma mb ir sw io dl ha rd sn md kf kb cn pf : Int32) (co ou : Nat → Int32) (x : Int32) (w : Int64) : MI l D (wx a) (tx a) sz yX_load cX_load 6 (some .boolean) 1 [.ref a.1, .int x, .int 2, .long w] (pc, ac, lk, mq, ma, mb, ir, sw, io, dl, ha, rd, sn, md, kf, kb, cn, pf, co, ou) (fun r u => (r, u) = ldf x 2 w (pc, ac, lk, mq, ma, mb, ir, sw, io, dl, ha, rd, sn, md, kf, kb, cn, pf, co, ou)) := by
  refine en_i RX rfl (by decide) (Nat.le_of_ble_eq_true rfl) ?_
  intro p e s m below meth c A ls S hr hk hA hN hK hP hD hS hl
  have hl : lv_has ls 6 [(0, .ref a.1), (1, .int x), (2, .int 2), (3, .long w)] := hl
  refine lv_iload_n S.1 S.2.1 dX_load_0 rfl (lv_at hl 2 rfl) ?_
  refine lv_iconst (v := 1) S.1 S.2.1 dX_load_1 (by decide) ?_
  refine lv_icmp_lt (tgt := 17) S.1 S.2.1 dX_load_2 (by decide) (fun g1 => absurd g1 (by decide)) (fun _ => ?_)
  refine lv_iload_n S.1 S.2.1 dX_load_5 rfl (lv_at hl 2 rfl) ?_
  refine lv_iconst (v := 5) S.1 S.2.1 dX_load_6 (by decide) ?_
  refine lv_icmp_gt (tgt := 17) S.1 S.2.1 dX_load_7 (by decide) (fun g2 => absurd g2 (by decide)) (fun _ => ?_)
  refine lv_iload_n S.1 S.2.1 dX_load_10 rfl (lv_at hl 1 rfl) ?_
  refine cl_iS (As := [.int x]) (rest := []) S hN hK hP hD hS hA hl.1 (c_X_isAddress l D a _ pc ac lk mq ma mb ir sw io dl ha rd sn md kf kb cn pf co ou x) k_X_83 ⟨by decide, by decide⟩ rfl rfl (Nat.le_of_ble_eq_true rfl) ⟨Nat.le_refl _, Nat.le_refl _⟩ dX_load_11 (fun r u H locs hw hP hD hS => ?_)
  obtain ⟨g3, rfl, rfl⟩ | ⟨g4, g5, rfl, rfl⟩ | ⟨g6, g7, rfl, rfl⟩ := hw
  · refine lv_if_ne (tgt := 19) S.1 S.2.1 dX_load_14 (by decide) (fun g8 => absurd (by decide) g8) (fun _ => ?_)
    refine lv_iconst (v := 0) S.1 S.2.1 dX_load_17 (by decide) ?_
    exact rt_z S hr hk hK hP hD hS rfl ((by simp [ldf, g3])) dX_load_18
  · refine lv_if_ne (tgt := 19) S.1 S.2.1 dX_load_14 (by decide) (fun g9 => absurd (by decide) g9) (fun _ => ?_)
    refine lv_iconst (v := 0) S.1 S.2.1 dX_load_17 (by decide) ?_
    exact rt_z S hr hk hK hP hD hS rfl ((by simp [ldf, g4, g5])) dX_load_18
  · refine lv_if_ne (tgt := 19) S.1 S.2.1 dX_load_14 (by decide) (fun _ => ?_) (fun g10 => absurd g10 (by decide))
    refine lv_iconst (v := 0) S.1 S.2.1 dX_load_19 (by decide) ?_
    refine lv_istore S.1 S.2.1 dX_load_20 hl (by decide) rfl (fun ls hl => ?_)
    have hl : lv_has ls 6 [(5, .int 0), (0, .ref a.1), (1, .int x), (2, .int 2), (3, .long w)] := hl
    refine lv_iload S.1 S.2.1 dX_load_22 (lv_at hl 0 rfl) ?_
    refine lv_iload_n S.1 S.2.1 dX_load_24 rfl (lv_at hl 3 rfl) ?_
    refine lv_icmp_ge (tgt := 54) S.1 S.2.1 dX_load_25 (by decide) (fun g11 => absurd g11 (by decide)) (fun _ => ?_)
    refine lv_aload_n S.1 S.2.1 dX_load_28 rfl (lv_at hl 1 rfl) ?_
    refine lv_iload_n S.1 S.2.1 dX_load_29 rfl (lv_at hl 2 rfl) ?_
    refine lv_iload S.1 S.2.1 dX_load_30 (lv_at hl 0 rfl) ?_
    refine lv_iadd S.1 S.2.1 dX_load_32 ?_
    refine lv_lload_n S.1 S.2.1 dX_load_33 rfl (lv_at hl 4 rfl) ?_
    refine lv_bipush (v := 12) S.1 S.2.1 dX_load_34 (by decide) ?_
    refine lv_iload_n S.1 S.2.1 dX_load_36 rfl (lv_at hl 3 rfl) ?_
    refine lv_iconst (v := 1) S.1 S.2.1 dX_load_37 (by decide) ?_
    refine lv_isub S.1 S.2.1 dX_load_38 ?_
    refine lv_iload S.1 S.2.1 dX_load_39 (lv_at hl 0 rfl) ?_
    refine lv_isub S.1 S.2.1 dX_load_41 ?_
    refine lv_imul S.1 S.2.1 dX_load_42 ?_
    refine lv_lushr S.1 S.2.1 dX_load_43 rfl ?_
    refine lv_l2i S.1 S.2.1 dX_load_44 rfl ?_
    refine cl_v (As := [.int (x + 0), .int (w.toUInt64 >>> (((12 * ((2 - 1) - 0)) : Int32).toInt64.toUInt64 &&& Int64.toUInt64 63)).toInt64.toInt32]) (rest := []) S hN hK hP hD hS hA hl.1 (c_X_write l D a _ pc ac lk mq ma mb ir sw io dl ha rd sn md kf kb cn pf co ou (x + 0) (w.toUInt64 >>> (((12 * ((2 - 1) - 0)) : Int32).toInt64.toUInt64 &&& Int64.toUInt64 63)).toInt64.toInt32) k_X_87 (rc_X hK hP) ⟨by decide, by decide⟩ rfl rfl (Nat.le_of_ble_eq_true rfl) ⟨Nat.le_refl _, Nat.le_refl _⟩ dX_load_45 (fun u H locs hw hP hD hS => ?_)
    obtain rfl := hw
    refine lv_iinc (k := 0) (v := 1) S.1 S.2.1 dX_load_48 hl rfl (by first | rfl | decide) (by decide) rfl (fun ls hl => ?_)
    have hl : lv_has ls 6 [(5, .int 1), (0, .ref a.1), (1, .int x), (2, .int 2), (3, .long w)] := hl
    refine lv_goto (tgt := 22) S.1 S.2.1 dX_load_51 (by decide) ?_
    refine lv_iload S.1 S.2.1 dX_load_22 (lv_at hl 0 rfl) ?_
    refine lv_iload_n S.1 S.2.1 dX_load_24 rfl (lv_at hl 3 rfl) ?_
    refine lv_icmp_ge (tgt := 54) S.1 S.2.1 dX_load_25 (by decide) (fun g12 => absurd g12 (by decide)) (fun _ => ?_)
    refine lv_aload_n S.1 S.2.1 dX_load_28 rfl (lv_at hl 1 rfl) ?_
    refine lv_iload_n S.1 S.2.1 dX_load_29 rfl (lv_at hl 2 rfl) ?_
    refine lv_iload S.1 S.2.1 dX_load_30 (lv_at hl 0 rfl) ?_
    refine lv_iadd S.1 S.2.1 dX_load_32 ?_
    refine lv_lload_n S.1 S.2.1 dX_load_33 rfl (lv_at hl 4 rfl) ?_
    refine lv_bipush (v := 12) S.1 S.2.1 dX_load_34 (by decide) ?_
    refine lv_iload_n S.1 S.2.1 dX_load_36 rfl (lv_at hl 3 rfl) ?_
    refine lv_iconst (v := 1) S.1 S.2.1 dX_load_37 (by decide) ?_
    refine lv_isub S.1 S.2.1 dX_load_38 ?_
    refine lv_iload S.1 S.2.1 dX_load_39 (lv_at hl 0 rfl) ?_
    refine lv_isub S.1 S.2.1 dX_load_41 ?_
    refine lv_imul S.1 S.2.1 dX_load_42 ?_
    refine lv_lushr S.1 S.2.1 dX_load_43 rfl ?_
    refine lv_l2i S.1 S.2.1 dX_load_44 rfl ?_
    refine cl_v (As := [.int (x + 1), .int (w.toUInt64 >>> (((12 * ((2 - 1) - 1)) : Int32).toInt64.toUInt64 &&& Int64.toUInt64 63)).toInt64.toInt32]) (rest := []) S hN hK hP hD hS hA hl.1 (c_X_write l D a _ pc ac lk mq ma mb ir sw io dl ha rd sn md kf kb cn pf (upd co ((x + 0) &&& 4095).toNatClampNeg ((w.toUInt64 >>> (((12 * ((2 - 1) - 0)) : Int32).toInt64.toUInt64 &&& Int64.toUInt64 63)).toInt64.toInt32 &&& 4095)) ou (x + 1) (w.toUInt64 >>> (((12 * ((2 - 1) - 1)) : Int32).toInt64.toUInt64 &&& Int64.toUInt64 63)).toInt64.toInt32) k_X_87 (rc_X hK hP) ⟨by decide, by decide⟩ rfl rfl (Nat.le_of_ble_eq_true rfl) ⟨Nat.le_refl _, Nat.le_refl _⟩ dX_load_45 (fun u H locs hw hP hD hS => ?_)
    obtain rfl := hw
    refine lv_iinc (k := 0) (v := 2) S.1 S.2.1 dX_load_48 hl rfl (by first | rfl | decide) (by decide) rfl (fun ls hl => ?_)
    have hl : lv_has ls 6 [(5, .int 2), (0, .ref a.1), (1, .int x), (2, .int 2), (3, .long w)] := hl
    refine lv_goto (tgt := 22) S.1 S.2.1 dX_load_51 (by decide) ?_
    refine lv_iload S.1 S.2.1 dX_load_22 (lv_at hl 0 rfl) ?_
    refine lv_iload_n S.1 S.2.1 dX_load_24 rfl (lv_at hl 3 rfl) ?_
    refine lv_icmp_ge (tgt := 54) S.1 S.2.1 dX_load_25 (by decide) (fun _ => ?_) (fun g13 => absurd (by decide) g13)
    refine lv_iconst (v := 1) S.1 S.2.1 dX_load_54 (by decide) ?_
    exact rt_z S hr hk hK hP hD hS rfl ((by simp [ldf, g6, g7])) dX_load_55

set_option maxHeartbeats 4000000 in
set_option maxRecDepth 100000 in
theorem c_X_load_3 (l : Launch) (D : va_G) (a : AX) (sz : Nat) (pc ac lk mq ma mb ir sw io dl ha rd sn md kf kb cn pf : Int32) (co ou : Nat → Int32) (x : Int32) (w : Int64) : MI l D (wx a) (tx a) sz yX_load cX_load 6 (some .boolean) 1 [.ref a.1, .int x, .int 3, .long w] (pc, ac, lk, mq, ma, mb, ir, sw, io, dl, ha, rd, sn, md, kf, kb, cn, pf, co, ou) (fun r u => (r, u) = ldf x 3 w (pc, ac, lk, mq, ma, mb, ir, sw, io, dl, ha, rd, sn, md, kf, kb, cn, pf, co, ou)) := by
  refine en_i RX rfl (by decide) (Nat.le_of_ble_eq_true rfl) ?_
  intro p e s m below meth c A ls S hr hk hA hN hK hP hD hS hl
  have hl : lv_has ls 6 [(0, .ref a.1), (1, .int x), (2, .int 3), (3, .long w)] := hl
  refine lv_iload_n S.1 S.2.1 dX_load_0 rfl (lv_at hl 2 rfl) ?_
  refine lv_iconst (v := 1) S.1 S.2.1 dX_load_1 (by decide) ?_
  refine lv_icmp_lt (tgt := 17) S.1 S.2.1 dX_load_2 (by decide) (fun g1 => absurd g1 (by decide)) (fun _ => ?_)
  refine lv_iload_n S.1 S.2.1 dX_load_5 rfl (lv_at hl 2 rfl) ?_
  refine lv_iconst (v := 5) S.1 S.2.1 dX_load_6 (by decide) ?_
  refine lv_icmp_gt (tgt := 17) S.1 S.2.1 dX_load_7 (by decide) (fun g2 => absurd g2 (by decide)) (fun _ => ?_)
  refine lv_iload_n S.1 S.2.1 dX_load_10 rfl (lv_at hl 1 rfl) ?_
  refine cl_iS (As := [.int x]) (rest := []) S hN hK hP hD hS hA hl.1 (c_X_isAddress l D a _ pc ac lk mq ma mb ir sw io dl ha rd sn md kf kb cn pf co ou x) k_X_83 ⟨by decide, by decide⟩ rfl rfl (Nat.le_of_ble_eq_true rfl) ⟨Nat.le_refl _, Nat.le_refl _⟩ dX_load_11 (fun r u H locs hw hP hD hS => ?_)
  obtain ⟨g3, rfl, rfl⟩ | ⟨g4, g5, rfl, rfl⟩ | ⟨g6, g7, rfl, rfl⟩ := hw
  · refine lv_if_ne (tgt := 19) S.1 S.2.1 dX_load_14 (by decide) (fun g8 => absurd (by decide) g8) (fun _ => ?_)
    refine lv_iconst (v := 0) S.1 S.2.1 dX_load_17 (by decide) ?_
    exact rt_z S hr hk hK hP hD hS rfl ((by simp [ldf, g3])) dX_load_18
  · refine lv_if_ne (tgt := 19) S.1 S.2.1 dX_load_14 (by decide) (fun g9 => absurd (by decide) g9) (fun _ => ?_)
    refine lv_iconst (v := 0) S.1 S.2.1 dX_load_17 (by decide) ?_
    exact rt_z S hr hk hK hP hD hS rfl ((by simp [ldf, g4, g5])) dX_load_18
  · refine lv_if_ne (tgt := 19) S.1 S.2.1 dX_load_14 (by decide) (fun _ => ?_) (fun g10 => absurd g10 (by decide))
    refine lv_iconst (v := 0) S.1 S.2.1 dX_load_19 (by decide) ?_
    refine lv_istore S.1 S.2.1 dX_load_20 hl (by decide) rfl (fun ls hl => ?_)
    have hl : lv_has ls 6 [(5, .int 0), (0, .ref a.1), (1, .int x), (2, .int 3), (3, .long w)] := hl
    refine lv_iload S.1 S.2.1 dX_load_22 (lv_at hl 0 rfl) ?_
    refine lv_iload_n S.1 S.2.1 dX_load_24 rfl (lv_at hl 3 rfl) ?_
    refine lv_icmp_ge (tgt := 54) S.1 S.2.1 dX_load_25 (by decide) (fun g11 => absurd g11 (by decide)) (fun _ => ?_)
    refine lv_aload_n S.1 S.2.1 dX_load_28 rfl (lv_at hl 1 rfl) ?_
    refine lv_iload_n S.1 S.2.1 dX_load_29 rfl (lv_at hl 2 rfl) ?_
    refine lv_iload S.1 S.2.1 dX_load_30 (lv_at hl 0 rfl) ?_
    refine lv_iadd S.1 S.2.1 dX_load_32 ?_
    refine lv_lload_n S.1 S.2.1 dX_load_33 rfl (lv_at hl 4 rfl) ?_
    refine lv_bipush (v := 12) S.1 S.2.1 dX_load_34 (by decide) ?_
    refine lv_iload_n S.1 S.2.1 dX_load_36 rfl (lv_at hl 3 rfl) ?_
    refine lv_iconst (v := 1) S.1 S.2.1 dX_load_37 (by decide) ?_
    refine lv_isub S.1 S.2.1 dX_load_38 ?_
    refine lv_iload S.1 S.2.1 dX_load_39 (lv_at hl 0 rfl) ?_
    refine lv_isub S.1 S.2.1 dX_load_41 ?_
    refine lv_imul S.1 S.2.1 dX_load_42 ?_
    refine lv_lushr S.1 S.2.1 dX_load_43 rfl ?_
    refine lv_l2i S.1 S.2.1 dX_load_44 rfl ?_
    refine cl_v (As := [.int (x + 0), .int (w.toUInt64 >>> (((12 * ((3 - 1) - 0)) : Int32).toInt64.toUInt64 &&& Int64.toUInt64 63)).toInt64.toInt32]) (rest := []) S hN hK hP hD hS hA hl.1 (c_X_write l D a _ pc ac lk mq ma mb ir sw io dl ha rd sn md kf kb cn pf co ou (x + 0) (w.toUInt64 >>> (((12 * ((3 - 1) - 0)) : Int32).toInt64.toUInt64 &&& Int64.toUInt64 63)).toInt64.toInt32) k_X_87 (rc_X hK hP) ⟨by decide, by decide⟩ rfl rfl (Nat.le_of_ble_eq_true rfl) ⟨Nat.le_refl _, Nat.le_refl _⟩ dX_load_45 (fun u H locs hw hP hD hS => ?_)
    obtain rfl := hw
    refine lv_iinc (k := 0) (v := 1) S.1 S.2.1 dX_load_48 hl rfl (by first | rfl | decide) (by decide) rfl (fun ls hl => ?_)
    have hl : lv_has ls 6 [(5, .int 1), (0, .ref a.1), (1, .int x), (2, .int 3), (3, .long w)] := hl
    refine lv_goto (tgt := 22) S.1 S.2.1 dX_load_51 (by decide) ?_
    refine lv_iload S.1 S.2.1 dX_load_22 (lv_at hl 0 rfl) ?_
    refine lv_iload_n S.1 S.2.1 dX_load_24 rfl (lv_at hl 3 rfl) ?_
    refine lv_icmp_ge (tgt := 54) S.1 S.2.1 dX_load_25 (by decide) (fun g12 => absurd g12 (by decide)) (fun _ => ?_)
    refine lv_aload_n S.1 S.2.1 dX_load_28 rfl (lv_at hl 1 rfl) ?_
    refine lv_iload_n S.1 S.2.1 dX_load_29 rfl (lv_at hl 2 rfl) ?_
    refine lv_iload S.1 S.2.1 dX_load_30 (lv_at hl 0 rfl) ?_
    refine lv_iadd S.1 S.2.1 dX_load_32 ?_
    refine lv_lload_n S.1 S.2.1 dX_load_33 rfl (lv_at hl 4 rfl) ?_
    refine lv_bipush (v := 12) S.1 S.2.1 dX_load_34 (by decide) ?_
    refine lv_iload_n S.1 S.2.1 dX_load_36 rfl (lv_at hl 3 rfl) ?_
    refine lv_iconst (v := 1) S.1 S.2.1 dX_load_37 (by decide) ?_
    refine lv_isub S.1 S.2.1 dX_load_38 ?_
    refine lv_iload S.1 S.2.1 dX_load_39 (lv_at hl 0 rfl) ?_
    refine lv_isub S.1 S.2.1 dX_load_41 ?_
    refine lv_imul S.1 S.2.1 dX_load_42 ?_
    refine lv_lushr S.1 S.2.1 dX_load_43 rfl ?_
    refine lv_l2i S.1 S.2.1 dX_load_44 rfl ?_
    refine cl_v (As := [.int (x + 1), .int (w.toUInt64 >>> (((12 * ((3 - 1) - 1)) : Int32).toInt64.toUInt64 &&& Int64.toUInt64 63)).toInt64.toInt32]) (rest := []) S hN hK hP hD hS hA hl.1 (c_X_write l D a _ pc ac lk mq ma mb ir sw io dl ha rd sn md kf kb cn pf (upd co ((x + 0) &&& 4095).toNatClampNeg ((w.toUInt64 >>> (((12 * ((3 - 1) - 0)) : Int32).toInt64.toUInt64 &&& Int64.toUInt64 63)).toInt64.toInt32 &&& 4095)) ou (x + 1) (w.toUInt64 >>> (((12 * ((3 - 1) - 1)) : Int32).toInt64.toUInt64 &&& Int64.toUInt64 63)).toInt64.toInt32) k_X_87 (rc_X hK hP) ⟨by decide, by decide⟩ rfl rfl (Nat.le_of_ble_eq_true rfl) ⟨Nat.le_refl _, Nat.le_refl _⟩ dX_load_45 (fun u H locs hw hP hD hS => ?_)
    obtain rfl := hw
    refine lv_iinc (k := 0) (v := 2) S.1 S.2.1 dX_load_48 hl rfl (by first | rfl | decide) (by decide) rfl (fun ls hl => ?_)
    have hl : lv_has ls 6 [(5, .int 2), (0, .ref a.1), (1, .int x), (2, .int 3), (3, .long w)] := hl
    refine lv_goto (tgt := 22) S.1 S.2.1 dX_load_51 (by decide) ?_
    refine lv_iload S.1 S.2.1 dX_load_22 (lv_at hl 0 rfl) ?_
    refine lv_iload_n S.1 S.2.1 dX_load_24 rfl (lv_at hl 3 rfl) ?_
    refine lv_icmp_ge (tgt := 54) S.1 S.2.1 dX_load_25 (by decide) (fun g13 => absurd g13 (by decide)) (fun _ => ?_)
    refine lv_aload_n S.1 S.2.1 dX_load_28 rfl (lv_at hl 1 rfl) ?_
    refine lv_iload_n S.1 S.2.1 dX_load_29 rfl (lv_at hl 2 rfl) ?_
    refine lv_iload S.1 S.2.1 dX_load_30 (lv_at hl 0 rfl) ?_
    refine lv_iadd S.1 S.2.1 dX_load_32 ?_
    refine lv_lload_n S.1 S.2.1 dX_load_33 rfl (lv_at hl 4 rfl) ?_
    refine lv_bipush (v := 12) S.1 S.2.1 dX_load_34 (by decide) ?_
    refine lv_iload_n S.1 S.2.1 dX_load_36 rfl (lv_at hl 3 rfl) ?_
    refine lv_iconst (v := 1) S.1 S.2.1 dX_load_37 (by decide) ?_
    refine lv_isub S.1 S.2.1 dX_load_38 ?_
    refine lv_iload S.1 S.2.1 dX_load_39 (lv_at hl 0 rfl) ?_
    refine lv_isub S.1 S.2.1 dX_load_41 ?_
    refine lv_imul S.1 S.2.1 dX_load_42 ?_
    refine lv_lushr S.1 S.2.1 dX_load_43 rfl ?_
    refine lv_l2i S.1 S.2.1 dX_load_44 rfl ?_
    refine cl_v (As := [.int (x + 2), .int (w.toUInt64 >>> (((12 * ((3 - 1) - 2)) : Int32).toInt64.toUInt64 &&& Int64.toUInt64 63)).toInt64.toInt32]) (rest := []) S hN hK hP hD hS hA hl.1 (c_X_write l D a _ pc ac lk mq ma mb ir sw io dl ha rd sn md kf kb cn pf (upd (upd co ((x + 0) &&& 4095).toNatClampNeg ((w.toUInt64 >>> (((12 * ((3 - 1) - 0)) : Int32).toInt64.toUInt64 &&& Int64.toUInt64 63)).toInt64.toInt32 &&& 4095)) ((x + 1) &&& 4095).toNatClampNeg ((w.toUInt64 >>> (((12 * ((3 - 1) - 1)) : Int32).toInt64.toUInt64 &&& Int64.toUInt64 63)).toInt64.toInt32 &&& 4095)) ou (x + 2) (w.toUInt64 >>> (((12 * ((3 - 1) - 2)) : Int32).toInt64.toUInt64 &&& Int64.toUInt64 63)).toInt64.toInt32) k_X_87 (rc_X hK hP) ⟨by decide, by decide⟩ rfl rfl (Nat.le_of_ble_eq_true rfl) ⟨Nat.le_refl _, Nat.le_refl _⟩ dX_load_45 (fun u H locs hw hP hD hS => ?_)
    obtain rfl := hw
    refine lv_iinc (k := 0) (v := 3) S.1 S.2.1 dX_load_48 hl rfl (by first | rfl | decide) (by decide) rfl (fun ls hl => ?_)
    have hl : lv_has ls 6 [(5, .int 3), (0, .ref a.1), (1, .int x), (2, .int 3), (3, .long w)] := hl
    refine lv_goto (tgt := 22) S.1 S.2.1 dX_load_51 (by decide) ?_
    refine lv_iload S.1 S.2.1 dX_load_22 (lv_at hl 0 rfl) ?_
    refine lv_iload_n S.1 S.2.1 dX_load_24 rfl (lv_at hl 3 rfl) ?_
    refine lv_icmp_ge (tgt := 54) S.1 S.2.1 dX_load_25 (by decide) (fun _ => ?_) (fun g14 => absurd (by decide) g14)
    refine lv_iconst (v := 1) S.1 S.2.1 dX_load_54 (by decide) ?_
    exact rt_z S hr hk hK hP hD hS rfl ((by simp [ldf, g6, g7])) dX_load_55

set_option maxHeartbeats 4000000 in
set_option maxRecDepth 100000 in
theorem c_X_load_4 (l : Launch) (D : va_G) (a : AX) (sz : Nat) (pc ac lk mq ma mb ir sw io dl ha rd sn md kf kb cn pf : Int32) (co ou : Nat → Int32) (x : Int32) (w : Int64) : MI l D (wx a) (tx a) sz yX_load cX_load 6 (some .boolean) 1 [.ref a.1, .int x, .int 4, .long w] (pc, ac, lk, mq, ma, mb, ir, sw, io, dl, ha, rd, sn, md, kf, kb, cn, pf, co, ou) (fun r u => (r, u) = ldf x 4 w (pc, ac, lk, mq, ma, mb, ir, sw, io, dl, ha, rd, sn, md, kf, kb, cn, pf, co, ou)) := by
  refine en_i RX rfl (by decide) (Nat.le_of_ble_eq_true rfl) ?_
  intro p e s m below meth c A ls S hr hk hA hN hK hP hD hS hl
  have hl : lv_has ls 6 [(0, .ref a.1), (1, .int x), (2, .int 4), (3, .long w)] := hl
  refine lv_iload_n S.1 S.2.1 dX_load_0 rfl (lv_at hl 2 rfl) ?_
  refine lv_iconst (v := 1) S.1 S.2.1 dX_load_1 (by decide) ?_
  refine lv_icmp_lt (tgt := 17) S.1 S.2.1 dX_load_2 (by decide) (fun g1 => absurd g1 (by decide)) (fun _ => ?_)
  refine lv_iload_n S.1 S.2.1 dX_load_5 rfl (lv_at hl 2 rfl) ?_
  refine lv_iconst (v := 5) S.1 S.2.1 dX_load_6 (by decide) ?_
  refine lv_icmp_gt (tgt := 17) S.1 S.2.1 dX_load_7 (by decide) (fun g2 => absurd g2 (by decide)) (fun _ => ?_)
  refine lv_iload_n S.1 S.2.1 dX_load_10 rfl (lv_at hl 1 rfl) ?_
  refine cl_iS (As := [.int x]) (rest := []) S hN hK hP hD hS hA hl.1 (c_X_isAddress l D a _ pc ac lk mq ma mb ir sw io dl ha rd sn md kf kb cn pf co ou x) k_X_83 ⟨by decide, by decide⟩ rfl rfl (Nat.le_of_ble_eq_true rfl) ⟨Nat.le_refl _, Nat.le_refl _⟩ dX_load_11 (fun r u H locs hw hP hD hS => ?_)
  obtain ⟨g3, rfl, rfl⟩ | ⟨g4, g5, rfl, rfl⟩ | ⟨g6, g7, rfl, rfl⟩ := hw
  · refine lv_if_ne (tgt := 19) S.1 S.2.1 dX_load_14 (by decide) (fun g8 => absurd (by decide) g8) (fun _ => ?_)
    refine lv_iconst (v := 0) S.1 S.2.1 dX_load_17 (by decide) ?_
    exact rt_z S hr hk hK hP hD hS rfl ((by simp [ldf, g3])) dX_load_18
  · refine lv_if_ne (tgt := 19) S.1 S.2.1 dX_load_14 (by decide) (fun g9 => absurd (by decide) g9) (fun _ => ?_)
    refine lv_iconst (v := 0) S.1 S.2.1 dX_load_17 (by decide) ?_
    exact rt_z S hr hk hK hP hD hS rfl ((by simp [ldf, g4, g5])) dX_load_18
  · refine lv_if_ne (tgt := 19) S.1 S.2.1 dX_load_14 (by decide) (fun _ => ?_) (fun g10 => absurd g10 (by decide))
    refine lv_iconst (v := 0) S.1 S.2.1 dX_load_19 (by decide) ?_
    refine lv_istore S.1 S.2.1 dX_load_20 hl (by decide) rfl (fun ls hl => ?_)
    have hl : lv_has ls 6 [(5, .int 0), (0, .ref a.1), (1, .int x), (2, .int 4), (3, .long w)] := hl
    refine lv_iload S.1 S.2.1 dX_load_22 (lv_at hl 0 rfl) ?_
    refine lv_iload_n S.1 S.2.1 dX_load_24 rfl (lv_at hl 3 rfl) ?_
    refine lv_icmp_ge (tgt := 54) S.1 S.2.1 dX_load_25 (by decide) (fun g11 => absurd g11 (by decide)) (fun _ => ?_)
    refine lv_aload_n S.1 S.2.1 dX_load_28 rfl (lv_at hl 1 rfl) ?_
    refine lv_iload_n S.1 S.2.1 dX_load_29 rfl (lv_at hl 2 rfl) ?_
    refine lv_iload S.1 S.2.1 dX_load_30 (lv_at hl 0 rfl) ?_
    refine lv_iadd S.1 S.2.1 dX_load_32 ?_
    refine lv_lload_n S.1 S.2.1 dX_load_33 rfl (lv_at hl 4 rfl) ?_
    refine lv_bipush (v := 12) S.1 S.2.1 dX_load_34 (by decide) ?_
    refine lv_iload_n S.1 S.2.1 dX_load_36 rfl (lv_at hl 3 rfl) ?_
    refine lv_iconst (v := 1) S.1 S.2.1 dX_load_37 (by decide) ?_
    refine lv_isub S.1 S.2.1 dX_load_38 ?_
    refine lv_iload S.1 S.2.1 dX_load_39 (lv_at hl 0 rfl) ?_
    refine lv_isub S.1 S.2.1 dX_load_41 ?_
    refine lv_imul S.1 S.2.1 dX_load_42 ?_
    refine lv_lushr S.1 S.2.1 dX_load_43 rfl ?_
    refine lv_l2i S.1 S.2.1 dX_load_44 rfl ?_
    refine cl_v (As := [.int (x + 0), .int (w.toUInt64 >>> (((12 * ((4 - 1) - 0)) : Int32).toInt64.toUInt64 &&& Int64.toUInt64 63)).toInt64.toInt32]) (rest := []) S hN hK hP hD hS hA hl.1 (c_X_write l D a _ pc ac lk mq ma mb ir sw io dl ha rd sn md kf kb cn pf co ou (x + 0) (w.toUInt64 >>> (((12 * ((4 - 1) - 0)) : Int32).toInt64.toUInt64 &&& Int64.toUInt64 63)).toInt64.toInt32) k_X_87 (rc_X hK hP) ⟨by decide, by decide⟩ rfl rfl (Nat.le_of_ble_eq_true rfl) ⟨Nat.le_refl _, Nat.le_refl _⟩ dX_load_45 (fun u H locs hw hP hD hS => ?_)
    obtain rfl := hw
    refine lv_iinc (k := 0) (v := 1) S.1 S.2.1 dX_load_48 hl rfl (by first | rfl | decide) (by decide) rfl (fun ls hl => ?_)
    have hl : lv_has ls 6 [(5, .int 1), (0, .ref a.1), (1, .int x), (2, .int 4), (3, .long w)] := hl
    refine lv_goto (tgt := 22) S.1 S.2.1 dX_load_51 (by decide) ?_
    refine lv_iload S.1 S.2.1 dX_load_22 (lv_at hl 0 rfl) ?_
    refine lv_iload_n S.1 S.2.1 dX_load_24 rfl (lv_at hl 3 rfl) ?_
    refine lv_icmp_ge (tgt := 54) S.1 S.2.1 dX_load_25 (by decide) (fun g12 => absurd g12 (by decide)) (fun _ => ?_)
    refine lv_aload_n S.1 S.2.1 dX_load_28 rfl (lv_at hl 1 rfl) ?_
    refine lv_iload_n S.1 S.2.1 dX_load_29 rfl (lv_at hl 2 rfl) ?_
    refine lv_iload S.1 S.2.1 dX_load_30 (lv_at hl 0 rfl) ?_
    refine lv_iadd S.1 S.2.1 dX_load_32 ?_
    refine lv_lload_n S.1 S.2.1 dX_load_33 rfl (lv_at hl 4 rfl) ?_
    refine lv_bipush (v := 12) S.1 S.2.1 dX_load_34 (by decide) ?_
    refine lv_iload_n S.1 S.2.1 dX_load_36 rfl (lv_at hl 3 rfl) ?_
    refine lv_iconst (v := 1) S.1 S.2.1 dX_load_37 (by decide) ?_
    refine lv_isub S.1 S.2.1 dX_load_38 ?_
    refine lv_iload S.1 S.2.1 dX_load_39 (lv_at hl 0 rfl) ?_
    refine lv_isub S.1 S.2.1 dX_load_41 ?_
    refine lv_imul S.1 S.2.1 dX_load_42 ?_
    refine lv_lushr S.1 S.2.1 dX_load_43 rfl ?_
    refine lv_l2i S.1 S.2.1 dX_load_44 rfl ?_
    refine cl_v (As := [.int (x + 1), .int (w.toUInt64 >>> (((12 * ((4 - 1) - 1)) : Int32).toInt64.toUInt64 &&& Int64.toUInt64 63)).toInt64.toInt32]) (rest := []) S hN hK hP hD hS hA hl.1 (c_X_write l D a _ pc ac lk mq ma mb ir sw io dl ha rd sn md kf kb cn pf (upd co ((x + 0) &&& 4095).toNatClampNeg ((w.toUInt64 >>> (((12 * ((4 - 1) - 0)) : Int32).toInt64.toUInt64 &&& Int64.toUInt64 63)).toInt64.toInt32 &&& 4095)) ou (x + 1) (w.toUInt64 >>> (((12 * ((4 - 1) - 1)) : Int32).toInt64.toUInt64 &&& Int64.toUInt64 63)).toInt64.toInt32) k_X_87 (rc_X hK hP) ⟨by decide, by decide⟩ rfl rfl (Nat.le_of_ble_eq_true rfl) ⟨Nat.le_refl _, Nat.le_refl _⟩ dX_load_45 (fun u H locs hw hP hD hS => ?_)
    obtain rfl := hw
    refine lv_iinc (k := 0) (v := 2) S.1 S.2.1 dX_load_48 hl rfl (by first | rfl | decide) (by decide) rfl (fun ls hl => ?_)
    have hl : lv_has ls 6 [(5, .int 2), (0, .ref a.1), (1, .int x), (2, .int 4), (3, .long w)] := hl
    refine lv_goto (tgt := 22) S.1 S.2.1 dX_load_51 (by decide) ?_
    refine lv_iload S.1 S.2.1 dX_load_22 (lv_at hl 0 rfl) ?_
    refine lv_iload_n S.1 S.2.1 dX_load_24 rfl (lv_at hl 3 rfl) ?_
    refine lv_icmp_ge (tgt := 54) S.1 S.2.1 dX_load_25 (by decide) (fun g13 => absurd g13 (by decide)) (fun _ => ?_)
    refine lv_aload_n S.1 S.2.1 dX_load_28 rfl (lv_at hl 1 rfl) ?_
    refine lv_iload_n S.1 S.2.1 dX_load_29 rfl (lv_at hl 2 rfl) ?_
    refine lv_iload S.1 S.2.1 dX_load_30 (lv_at hl 0 rfl) ?_
    refine lv_iadd S.1 S.2.1 dX_load_32 ?_
    refine lv_lload_n S.1 S.2.1 dX_load_33 rfl (lv_at hl 4 rfl) ?_
    refine lv_bipush (v := 12) S.1 S.2.1 dX_load_34 (by decide) ?_
    refine lv_iload_n S.1 S.2.1 dX_load_36 rfl (lv_at hl 3 rfl) ?_
    refine lv_iconst (v := 1) S.1 S.2.1 dX_load_37 (by decide) ?_
    refine lv_isub S.1 S.2.1 dX_load_38 ?_
    refine lv_iload S.1 S.2.1 dX_load_39 (lv_at hl 0 rfl) ?_
    refine lv_isub S.1 S.2.1 dX_load_41 ?_
    refine lv_imul S.1 S.2.1 dX_load_42 ?_
    refine lv_lushr S.1 S.2.1 dX_load_43 rfl ?_
    refine lv_l2i S.1 S.2.1 dX_load_44 rfl ?_
    refine cl_v (As := [.int (x + 2), .int (w.toUInt64 >>> (((12 * ((4 - 1) - 2)) : Int32).toInt64.toUInt64 &&& Int64.toUInt64 63)).toInt64.toInt32]) (rest := []) S hN hK hP hD hS hA hl.1 (c_X_write l D a _ pc ac lk mq ma mb ir sw io dl ha rd sn md kf kb cn pf (upd (upd co ((x + 0) &&& 4095).toNatClampNeg ((w.toUInt64 >>> (((12 * ((4 - 1) - 0)) : Int32).toInt64.toUInt64 &&& Int64.toUInt64 63)).toInt64.toInt32 &&& 4095)) ((x + 1) &&& 4095).toNatClampNeg ((w.toUInt64 >>> (((12 * ((4 - 1) - 1)) : Int32).toInt64.toUInt64 &&& Int64.toUInt64 63)).toInt64.toInt32 &&& 4095)) ou (x + 2) (w.toUInt64 >>> (((12 * ((4 - 1) - 2)) : Int32).toInt64.toUInt64 &&& Int64.toUInt64 63)).toInt64.toInt32) k_X_87 (rc_X hK hP) ⟨by decide, by decide⟩ rfl rfl (Nat.le_of_ble_eq_true rfl) ⟨Nat.le_refl _, Nat.le_refl _⟩ dX_load_45 (fun u H locs hw hP hD hS => ?_)
    obtain rfl := hw
    refine lv_iinc (k := 0) (v := 3) S.1 S.2.1 dX_load_48 hl rfl (by first | rfl | decide) (by decide) rfl (fun ls hl => ?_)
    have hl : lv_has ls 6 [(5, .int 3), (0, .ref a.1), (1, .int x), (2, .int 4), (3, .long w)] := hl
    refine lv_goto (tgt := 22) S.1 S.2.1 dX_load_51 (by decide) ?_
    refine lv_iload S.1 S.2.1 dX_load_22 (lv_at hl 0 rfl) ?_
    refine lv_iload_n S.1 S.2.1 dX_load_24 rfl (lv_at hl 3 rfl) ?_
    refine lv_icmp_ge (tgt := 54) S.1 S.2.1 dX_load_25 (by decide) (fun g14 => absurd g14 (by decide)) (fun _ => ?_)
    refine lv_aload_n S.1 S.2.1 dX_load_28 rfl (lv_at hl 1 rfl) ?_
    refine lv_iload_n S.1 S.2.1 dX_load_29 rfl (lv_at hl 2 rfl) ?_
    refine lv_iload S.1 S.2.1 dX_load_30 (lv_at hl 0 rfl) ?_
    refine lv_iadd S.1 S.2.1 dX_load_32 ?_
    refine lv_lload_n S.1 S.2.1 dX_load_33 rfl (lv_at hl 4 rfl) ?_
    refine lv_bipush (v := 12) S.1 S.2.1 dX_load_34 (by decide) ?_
    refine lv_iload_n S.1 S.2.1 dX_load_36 rfl (lv_at hl 3 rfl) ?_
    refine lv_iconst (v := 1) S.1 S.2.1 dX_load_37 (by decide) ?_
    refine lv_isub S.1 S.2.1 dX_load_38 ?_
    refine lv_iload S.1 S.2.1 dX_load_39 (lv_at hl 0 rfl) ?_
    refine lv_isub S.1 S.2.1 dX_load_41 ?_
    refine lv_imul S.1 S.2.1 dX_load_42 ?_
    refine lv_lushr S.1 S.2.1 dX_load_43 rfl ?_
    refine lv_l2i S.1 S.2.1 dX_load_44 rfl ?_
    refine cl_v (As := [.int (x + 3), .int (w.toUInt64 >>> (((12 * ((4 - 1) - 3)) : Int32).toInt64.toUInt64 &&& Int64.toUInt64 63)).toInt64.toInt32]) (rest := []) S hN hK hP hD hS hA hl.1 (c_X_write l D a _ pc ac lk mq ma mb ir sw io dl ha rd sn md kf kb cn pf (upd (upd (upd co ((x + 0) &&& 4095).toNatClampNeg ((w.toUInt64 >>> (((12 * ((4 - 1) - 0)) : Int32).toInt64.toUInt64 &&& Int64.toUInt64 63)).toInt64.toInt32 &&& 4095)) ((x + 1) &&& 4095).toNatClampNeg ((w.toUInt64 >>> (((12 * ((4 - 1) - 1)) : Int32).toInt64.toUInt64 &&& Int64.toUInt64 63)).toInt64.toInt32 &&& 4095)) ((x + 2) &&& 4095).toNatClampNeg ((w.toUInt64 >>> (((12 * ((4 - 1) - 2)) : Int32).toInt64.toUInt64 &&& Int64.toUInt64 63)).toInt64.toInt32 &&& 4095)) ou (x + 3) (w.toUInt64 >>> (((12 * ((4 - 1) - 3)) : Int32).toInt64.toUInt64 &&& Int64.toUInt64 63)).toInt64.toInt32) k_X_87 (rc_X hK hP) ⟨by decide, by decide⟩ rfl rfl (Nat.le_of_ble_eq_true rfl) ⟨Nat.le_refl _, Nat.le_refl _⟩ dX_load_45 (fun u H locs hw hP hD hS => ?_)
    obtain rfl := hw
    refine lv_iinc (k := 0) (v := 4) S.1 S.2.1 dX_load_48 hl rfl (by first | rfl | decide) (by decide) rfl (fun ls hl => ?_)
    have hl : lv_has ls 6 [(5, .int 4), (0, .ref a.1), (1, .int x), (2, .int 4), (3, .long w)] := hl
    refine lv_goto (tgt := 22) S.1 S.2.1 dX_load_51 (by decide) ?_
    refine lv_iload S.1 S.2.1 dX_load_22 (lv_at hl 0 rfl) ?_
    refine lv_iload_n S.1 S.2.1 dX_load_24 rfl (lv_at hl 3 rfl) ?_
    refine lv_icmp_ge (tgt := 54) S.1 S.2.1 dX_load_25 (by decide) (fun _ => ?_) (fun g15 => absurd (by decide) g15)
    refine lv_iconst (v := 1) S.1 S.2.1 dX_load_54 (by decide) ?_
    exact rt_z S hr hk hK hP hD hS rfl ((by simp [ldf, g6, g7])) dX_load_55

set_option maxHeartbeats 4000000 in
set_option maxRecDepth 100000 in
theorem c_X_load_5 (l : Launch) (D : va_G) (a : AX) (sz : Nat) (pc ac lk mq ma mb ir sw io dl ha rd sn md kf kb cn pf : Int32) (co ou : Nat → Int32) (x : Int32) (w : Int64) : MI l D (wx a) (tx a) sz yX_load cX_load 6 (some .boolean) 1 [.ref a.1, .int x, .int 5, .long w] (pc, ac, lk, mq, ma, mb, ir, sw, io, dl, ha, rd, sn, md, kf, kb, cn, pf, co, ou) (fun r u => (r, u) = ldf x 5 w (pc, ac, lk, mq, ma, mb, ir, sw, io, dl, ha, rd, sn, md, kf, kb, cn, pf, co, ou)) := by
  refine en_i RX rfl (by decide) (Nat.le_of_ble_eq_true rfl) ?_
  intro p e s m below meth c A ls S hr hk hA hN hK hP hD hS hl
  have hl : lv_has ls 6 [(0, .ref a.1), (1, .int x), (2, .int 5), (3, .long w)] := hl
  refine lv_iload_n S.1 S.2.1 dX_load_0 rfl (lv_at hl 2 rfl) ?_
  refine lv_iconst (v := 1) S.1 S.2.1 dX_load_1 (by decide) ?_
  refine lv_icmp_lt (tgt := 17) S.1 S.2.1 dX_load_2 (by decide) (fun g1 => absurd g1 (by decide)) (fun _ => ?_)
  refine lv_iload_n S.1 S.2.1 dX_load_5 rfl (lv_at hl 2 rfl) ?_
  refine lv_iconst (v := 5) S.1 S.2.1 dX_load_6 (by decide) ?_
  refine lv_icmp_gt (tgt := 17) S.1 S.2.1 dX_load_7 (by decide) (fun g2 => absurd g2 (by decide)) (fun _ => ?_)
  refine lv_iload_n S.1 S.2.1 dX_load_10 rfl (lv_at hl 1 rfl) ?_
  refine cl_iS (As := [.int x]) (rest := []) S hN hK hP hD hS hA hl.1 (c_X_isAddress l D a _ pc ac lk mq ma mb ir sw io dl ha rd sn md kf kb cn pf co ou x) k_X_83 ⟨by decide, by decide⟩ rfl rfl (Nat.le_of_ble_eq_true rfl) ⟨Nat.le_refl _, Nat.le_refl _⟩ dX_load_11 (fun r u H locs hw hP hD hS => ?_)
  obtain ⟨g3, rfl, rfl⟩ | ⟨g4, g5, rfl, rfl⟩ | ⟨g6, g7, rfl, rfl⟩ := hw
  · refine lv_if_ne (tgt := 19) S.1 S.2.1 dX_load_14 (by decide) (fun g8 => absurd (by decide) g8) (fun _ => ?_)
    refine lv_iconst (v := 0) S.1 S.2.1 dX_load_17 (by decide) ?_
    exact rt_z S hr hk hK hP hD hS rfl ((by simp [ldf, g3])) dX_load_18
  · refine lv_if_ne (tgt := 19) S.1 S.2.1 dX_load_14 (by decide) (fun g9 => absurd (by decide) g9) (fun _ => ?_)
    refine lv_iconst (v := 0) S.1 S.2.1 dX_load_17 (by decide) ?_
    exact rt_z S hr hk hK hP hD hS rfl ((by simp [ldf, g4, g5])) dX_load_18
  · refine lv_if_ne (tgt := 19) S.1 S.2.1 dX_load_14 (by decide) (fun _ => ?_) (fun g10 => absurd g10 (by decide))
    refine lv_iconst (v := 0) S.1 S.2.1 dX_load_19 (by decide) ?_
    refine lv_istore S.1 S.2.1 dX_load_20 hl (by decide) rfl (fun ls hl => ?_)
    have hl : lv_has ls 6 [(5, .int 0), (0, .ref a.1), (1, .int x), (2, .int 5), (3, .long w)] := hl
    refine lv_iload S.1 S.2.1 dX_load_22 (lv_at hl 0 rfl) ?_
    refine lv_iload_n S.1 S.2.1 dX_load_24 rfl (lv_at hl 3 rfl) ?_
    refine lv_icmp_ge (tgt := 54) S.1 S.2.1 dX_load_25 (by decide) (fun g11 => absurd g11 (by decide)) (fun _ => ?_)
    refine lv_aload_n S.1 S.2.1 dX_load_28 rfl (lv_at hl 1 rfl) ?_
    refine lv_iload_n S.1 S.2.1 dX_load_29 rfl (lv_at hl 2 rfl) ?_
    refine lv_iload S.1 S.2.1 dX_load_30 (lv_at hl 0 rfl) ?_
    refine lv_iadd S.1 S.2.1 dX_load_32 ?_
    refine lv_lload_n S.1 S.2.1 dX_load_33 rfl (lv_at hl 4 rfl) ?_
    refine lv_bipush (v := 12) S.1 S.2.1 dX_load_34 (by decide) ?_
    refine lv_iload_n S.1 S.2.1 dX_load_36 rfl (lv_at hl 3 rfl) ?_
    refine lv_iconst (v := 1) S.1 S.2.1 dX_load_37 (by decide) ?_
    refine lv_isub S.1 S.2.1 dX_load_38 ?_
    refine lv_iload S.1 S.2.1 dX_load_39 (lv_at hl 0 rfl) ?_
    refine lv_isub S.1 S.2.1 dX_load_41 ?_
    refine lv_imul S.1 S.2.1 dX_load_42 ?_
    refine lv_lushr S.1 S.2.1 dX_load_43 rfl ?_
    refine lv_l2i S.1 S.2.1 dX_load_44 rfl ?_
    refine cl_v (As := [.int (x + 0), .int (w.toUInt64 >>> (((12 * ((5 - 1) - 0)) : Int32).toInt64.toUInt64 &&& Int64.toUInt64 63)).toInt64.toInt32]) (rest := []) S hN hK hP hD hS hA hl.1 (c_X_write l D a _ pc ac lk mq ma mb ir sw io dl ha rd sn md kf kb cn pf co ou (x + 0) (w.toUInt64 >>> (((12 * ((5 - 1) - 0)) : Int32).toInt64.toUInt64 &&& Int64.toUInt64 63)).toInt64.toInt32) k_X_87 (rc_X hK hP) ⟨by decide, by decide⟩ rfl rfl (Nat.le_of_ble_eq_true rfl) ⟨Nat.le_refl _, Nat.le_refl _⟩ dX_load_45 (fun u H locs hw hP hD hS => ?_)
    obtain rfl := hw
    refine lv_iinc (k := 0) (v := 1) S.1 S.2.1 dX_load_48 hl rfl (by first | rfl | decide) (by decide) rfl (fun ls hl => ?_)
    have hl : lv_has ls 6 [(5, .int 1), (0, .ref a.1), (1, .int x), (2, .int 5), (3, .long w)] := hl
    refine lv_goto (tgt := 22) S.1 S.2.1 dX_load_51 (by decide) ?_
    refine lv_iload S.1 S.2.1 dX_load_22 (lv_at hl 0 rfl) ?_
    refine lv_iload_n S.1 S.2.1 dX_load_24 rfl (lv_at hl 3 rfl) ?_
    refine lv_icmp_ge (tgt := 54) S.1 S.2.1 dX_load_25 (by decide) (fun g12 => absurd g12 (by decide)) (fun _ => ?_)
    refine lv_aload_n S.1 S.2.1 dX_load_28 rfl (lv_at hl 1 rfl) ?_
    refine lv_iload_n S.1 S.2.1 dX_load_29 rfl (lv_at hl 2 rfl) ?_
    refine lv_iload S.1 S.2.1 dX_load_30 (lv_at hl 0 rfl) ?_
    refine lv_iadd S.1 S.2.1 dX_load_32 ?_
    refine lv_lload_n S.1 S.2.1 dX_load_33 rfl (lv_at hl 4 rfl) ?_
    refine lv_bipush (v := 12) S.1 S.2.1 dX_load_34 (by decide) ?_
    refine lv_iload_n S.1 S.2.1 dX_load_36 rfl (lv_at hl 3 rfl) ?_
    refine lv_iconst (v := 1) S.1 S.2.1 dX_load_37 (by decide) ?_
    refine lv_isub S.1 S.2.1 dX_load_38 ?_
    refine lv_iload S.1 S.2.1 dX_load_39 (lv_at hl 0 rfl) ?_
    refine lv_isub S.1 S.2.1 dX_load_41 ?_
    refine lv_imul S.1 S.2.1 dX_load_42 ?_
    refine lv_lushr S.1 S.2.1 dX_load_43 rfl ?_
    refine lv_l2i S.1 S.2.1 dX_load_44 rfl ?_
    refine cl_v (As := [.int (x + 1), .int (w.toUInt64 >>> (((12 * ((5 - 1) - 1)) : Int32).toInt64.toUInt64 &&& Int64.toUInt64 63)).toInt64.toInt32]) (rest := []) S hN hK hP hD hS hA hl.1 (c_X_write l D a _ pc ac lk mq ma mb ir sw io dl ha rd sn md kf kb cn pf (upd co ((x + 0) &&& 4095).toNatClampNeg ((w.toUInt64 >>> (((12 * ((5 - 1) - 0)) : Int32).toInt64.toUInt64 &&& Int64.toUInt64 63)).toInt64.toInt32 &&& 4095)) ou (x + 1) (w.toUInt64 >>> (((12 * ((5 - 1) - 1)) : Int32).toInt64.toUInt64 &&& Int64.toUInt64 63)).toInt64.toInt32) k_X_87 (rc_X hK hP) ⟨by decide, by decide⟩ rfl rfl (Nat.le_of_ble_eq_true rfl) ⟨Nat.le_refl _, Nat.le_refl _⟩ dX_load_45 (fun u H locs hw hP hD hS => ?_)
    obtain rfl := hw
    refine lv_iinc (k := 0) (v := 2) S.1 S.2.1 dX_load_48 hl rfl (by first | rfl | decide) (by decide) rfl (fun ls hl => ?_)
    have hl : lv_has ls 6 [(5, .int 2), (0, .ref a.1), (1, .int x), (2, .int 5), (3, .long w)] := hl
    refine lv_goto (tgt := 22) S.1 S.2.1 dX_load_51 (by decide) ?_
    refine lv_iload S.1 S.2.1 dX_load_22 (lv_at hl 0 rfl) ?_
    refine lv_iload_n S.1 S.2.1 dX_load_24 rfl (lv_at hl 3 rfl) ?_
    refine lv_icmp_ge (tgt := 54) S.1 S.2.1 dX_load_25 (by decide) (fun g13 => absurd g13 (by decide)) (fun _ => ?_)
    refine lv_aload_n S.1 S.2.1 dX_load_28 rfl (lv_at hl 1 rfl) ?_
    refine lv_iload_n S.1 S.2.1 dX_load_29 rfl (lv_at hl 2 rfl) ?_
    refine lv_iload S.1 S.2.1 dX_load_30 (lv_at hl 0 rfl) ?_
    refine lv_iadd S.1 S.2.1 dX_load_32 ?_
    refine lv_lload_n S.1 S.2.1 dX_load_33 rfl (lv_at hl 4 rfl) ?_
    refine lv_bipush (v := 12) S.1 S.2.1 dX_load_34 (by decide) ?_
    refine lv_iload_n S.1 S.2.1 dX_load_36 rfl (lv_at hl 3 rfl) ?_
    refine lv_iconst (v := 1) S.1 S.2.1 dX_load_37 (by decide) ?_
    refine lv_isub S.1 S.2.1 dX_load_38 ?_
    refine lv_iload S.1 S.2.1 dX_load_39 (lv_at hl 0 rfl) ?_
    refine lv_isub S.1 S.2.1 dX_load_41 ?_
    refine lv_imul S.1 S.2.1 dX_load_42 ?_
    refine lv_lushr S.1 S.2.1 dX_load_43 rfl ?_
    refine lv_l2i S.1 S.2.1 dX_load_44 rfl ?_
    refine cl_v (As := [.int (x + 2), .int (w.toUInt64 >>> (((12 * ((5 - 1) - 2)) : Int32).toInt64.toUInt64 &&& Int64.toUInt64 63)).toInt64.toInt32]) (rest := []) S hN hK hP hD hS hA hl.1 (c_X_write l D a _ pc ac lk mq ma mb ir sw io dl ha rd sn md kf kb cn pf (upd (upd co ((x + 0) &&& 4095).toNatClampNeg ((w.toUInt64 >>> (((12 * ((5 - 1) - 0)) : Int32).toInt64.toUInt64 &&& Int64.toUInt64 63)).toInt64.toInt32 &&& 4095)) ((x + 1) &&& 4095).toNatClampNeg ((w.toUInt64 >>> (((12 * ((5 - 1) - 1)) : Int32).toInt64.toUInt64 &&& Int64.toUInt64 63)).toInt64.toInt32 &&& 4095)) ou (x + 2) (w.toUInt64 >>> (((12 * ((5 - 1) - 2)) : Int32).toInt64.toUInt64 &&& Int64.toUInt64 63)).toInt64.toInt32) k_X_87 (rc_X hK hP) ⟨by decide, by decide⟩ rfl rfl (Nat.le_of_ble_eq_true rfl) ⟨Nat.le_refl _, Nat.le_refl _⟩ dX_load_45 (fun u H locs hw hP hD hS => ?_)
    obtain rfl := hw
    refine lv_iinc (k := 0) (v := 3) S.1 S.2.1 dX_load_48 hl rfl (by first | rfl | decide) (by decide) rfl (fun ls hl => ?_)
    have hl : lv_has ls 6 [(5, .int 3), (0, .ref a.1), (1, .int x), (2, .int 5), (3, .long w)] := hl
    refine lv_goto (tgt := 22) S.1 S.2.1 dX_load_51 (by decide) ?_
    refine lv_iload S.1 S.2.1 dX_load_22 (lv_at hl 0 rfl) ?_
    refine lv_iload_n S.1 S.2.1 dX_load_24 rfl (lv_at hl 3 rfl) ?_
    refine lv_icmp_ge (tgt := 54) S.1 S.2.1 dX_load_25 (by decide) (fun g14 => absurd g14 (by decide)) (fun _ => ?_)
    refine lv_aload_n S.1 S.2.1 dX_load_28 rfl (lv_at hl 1 rfl) ?_
    refine lv_iload_n S.1 S.2.1 dX_load_29 rfl (lv_at hl 2 rfl) ?_
    refine lv_iload S.1 S.2.1 dX_load_30 (lv_at hl 0 rfl) ?_
    refine lv_iadd S.1 S.2.1 dX_load_32 ?_
    refine lv_lload_n S.1 S.2.1 dX_load_33 rfl (lv_at hl 4 rfl) ?_
    refine lv_bipush (v := 12) S.1 S.2.1 dX_load_34 (by decide) ?_
    refine lv_iload_n S.1 S.2.1 dX_load_36 rfl (lv_at hl 3 rfl) ?_
    refine lv_iconst (v := 1) S.1 S.2.1 dX_load_37 (by decide) ?_
    refine lv_isub S.1 S.2.1 dX_load_38 ?_
    refine lv_iload S.1 S.2.1 dX_load_39 (lv_at hl 0 rfl) ?_
    refine lv_isub S.1 S.2.1 dX_load_41 ?_
    refine lv_imul S.1 S.2.1 dX_load_42 ?_
    refine lv_lushr S.1 S.2.1 dX_load_43 rfl ?_
    refine lv_l2i S.1 S.2.1 dX_load_44 rfl ?_
    refine cl_v (As := [.int (x + 3), .int (w.toUInt64 >>> (((12 * ((5 - 1) - 3)) : Int32).toInt64.toUInt64 &&& Int64.toUInt64 63)).toInt64.toInt32]) (rest := []) S hN hK hP hD hS hA hl.1 (c_X_write l D a _ pc ac lk mq ma mb ir sw io dl ha rd sn md kf kb cn pf (upd (upd (upd co ((x + 0) &&& 4095).toNatClampNeg ((w.toUInt64 >>> (((12 * ((5 - 1) - 0)) : Int32).toInt64.toUInt64 &&& Int64.toUInt64 63)).toInt64.toInt32 &&& 4095)) ((x + 1) &&& 4095).toNatClampNeg ((w.toUInt64 >>> (((12 * ((5 - 1) - 1)) : Int32).toInt64.toUInt64 &&& Int64.toUInt64 63)).toInt64.toInt32 &&& 4095)) ((x + 2) &&& 4095).toNatClampNeg ((w.toUInt64 >>> (((12 * ((5 - 1) - 2)) : Int32).toInt64.toUInt64 &&& Int64.toUInt64 63)).toInt64.toInt32 &&& 4095)) ou (x + 3) (w.toUInt64 >>> (((12 * ((5 - 1) - 3)) : Int32).toInt64.toUInt64 &&& Int64.toUInt64 63)).toInt64.toInt32) k_X_87 (rc_X hK hP) ⟨by decide, by decide⟩ rfl rfl (Nat.le_of_ble_eq_true rfl) ⟨Nat.le_refl _, Nat.le_refl _⟩ dX_load_45 (fun u H locs hw hP hD hS => ?_)
    obtain rfl := hw
    refine lv_iinc (k := 0) (v := 4) S.1 S.2.1 dX_load_48 hl rfl (by first | rfl | decide) (by decide) rfl (fun ls hl => ?_)
    have hl : lv_has ls 6 [(5, .int 4), (0, .ref a.1), (1, .int x), (2, .int 5), (3, .long w)] := hl
    refine lv_goto (tgt := 22) S.1 S.2.1 dX_load_51 (by decide) ?_
    refine lv_iload S.1 S.2.1 dX_load_22 (lv_at hl 0 rfl) ?_
    refine lv_iload_n S.1 S.2.1 dX_load_24 rfl (lv_at hl 3 rfl) ?_
    refine lv_icmp_ge (tgt := 54) S.1 S.2.1 dX_load_25 (by decide) (fun g15 => absurd g15 (by decide)) (fun _ => ?_)
    refine lv_aload_n S.1 S.2.1 dX_load_28 rfl (lv_at hl 1 rfl) ?_
    refine lv_iload_n S.1 S.2.1 dX_load_29 rfl (lv_at hl 2 rfl) ?_
    refine lv_iload S.1 S.2.1 dX_load_30 (lv_at hl 0 rfl) ?_
    refine lv_iadd S.1 S.2.1 dX_load_32 ?_
    refine lv_lload_n S.1 S.2.1 dX_load_33 rfl (lv_at hl 4 rfl) ?_
    refine lv_bipush (v := 12) S.1 S.2.1 dX_load_34 (by decide) ?_
    refine lv_iload_n S.1 S.2.1 dX_load_36 rfl (lv_at hl 3 rfl) ?_
    refine lv_iconst (v := 1) S.1 S.2.1 dX_load_37 (by decide) ?_
    refine lv_isub S.1 S.2.1 dX_load_38 ?_
    refine lv_iload S.1 S.2.1 dX_load_39 (lv_at hl 0 rfl) ?_
    refine lv_isub S.1 S.2.1 dX_load_41 ?_
    refine lv_imul S.1 S.2.1 dX_load_42 ?_
    refine lv_lushr S.1 S.2.1 dX_load_43 rfl ?_
    refine lv_l2i S.1 S.2.1 dX_load_44 rfl ?_
    refine cl_v (As := [.int (x + 4), .int (w.toUInt64 >>> (((12 * ((5 - 1) - 4)) : Int32).toInt64.toUInt64 &&& Int64.toUInt64 63)).toInt64.toInt32]) (rest := []) S hN hK hP hD hS hA hl.1 (c_X_write l D a _ pc ac lk mq ma mb ir sw io dl ha rd sn md kf kb cn pf (upd (upd (upd (upd co ((x + 0) &&& 4095).toNatClampNeg ((w.toUInt64 >>> (((12 * ((5 - 1) - 0)) : Int32).toInt64.toUInt64 &&& Int64.toUInt64 63)).toInt64.toInt32 &&& 4095)) ((x + 1) &&& 4095).toNatClampNeg ((w.toUInt64 >>> (((12 * ((5 - 1) - 1)) : Int32).toInt64.toUInt64 &&& Int64.toUInt64 63)).toInt64.toInt32 &&& 4095)) ((x + 2) &&& 4095).toNatClampNeg ((w.toUInt64 >>> (((12 * ((5 - 1) - 2)) : Int32).toInt64.toUInt64 &&& Int64.toUInt64 63)).toInt64.toInt32 &&& 4095)) ((x + 3) &&& 4095).toNatClampNeg ((w.toUInt64 >>> (((12 * ((5 - 1) - 3)) : Int32).toInt64.toUInt64 &&& Int64.toUInt64 63)).toInt64.toInt32 &&& 4095)) ou (x + 4) (w.toUInt64 >>> (((12 * ((5 - 1) - 4)) : Int32).toInt64.toUInt64 &&& Int64.toUInt64 63)).toInt64.toInt32) k_X_87 (rc_X hK hP) ⟨by decide, by decide⟩ rfl rfl (Nat.le_of_ble_eq_true rfl) ⟨Nat.le_refl _, Nat.le_refl _⟩ dX_load_45 (fun u H locs hw hP hD hS => ?_)
    obtain rfl := hw
    refine lv_iinc (k := 0) (v := 5) S.1 S.2.1 dX_load_48 hl rfl (by first | rfl | decide) (by decide) rfl (fun ls hl => ?_)
    have hl : lv_has ls 6 [(5, .int 5), (0, .ref a.1), (1, .int x), (2, .int 5), (3, .long w)] := hl
    refine lv_goto (tgt := 22) S.1 S.2.1 dX_load_51 (by decide) ?_
    refine lv_iload S.1 S.2.1 dX_load_22 (lv_at hl 0 rfl) ?_
    refine lv_iload_n S.1 S.2.1 dX_load_24 rfl (lv_at hl 3 rfl) ?_
    refine lv_icmp_ge (tgt := 54) S.1 S.2.1 dX_load_25 (by decide) (fun _ => ?_) (fun g16 => absurd (by decide) g16)
    refine lv_iconst (v := 1) S.1 S.2.1 dX_load_54 (by decide) ?_
    exact rt_z S hr hk hK hP hD hS rfl ((by simp [ldf, g6, g7])) dX_load_55

set_option maxHeartbeats 4000000 in
set_option maxRecDepth 100000 in
theorem c_X_load_lo (l : Launch) (D : va_G) (a : AX) (sz : Nat) (pc ac lk mq ma mb ir sw io dl ha rd sn md kf kb cn pf : Int32) (co ou : Nat → Int32) (x n : Int32) (w : Int64) (hlo : n < 1) : MI l D (wx a) (tx a) sz yX_load cX_load 6 (some .boolean) 1 [.ref a.1, .int x, .int n, .long w] (pc, ac, lk, mq, ma, mb, ir, sw, io, dl, ha, rd, sn, md, kf, kb, cn, pf, co, ou) (fun r u => (r, u) = ldf x n w (pc, ac, lk, mq, ma, mb, ir, sw, io, dl, ha, rd, sn, md, kf, kb, cn, pf, co, ou)) := by
  refine en_i RX rfl (by decide) (Nat.le_of_ble_eq_true rfl) ?_
  intro p e s m below meth c A ls S hr hk hA hN hK hP hD hS hl
  have hl : lv_has ls 6 [(0, .ref a.1), (1, .int x), (2, .int n), (3, .long w)] := hl
  refine lv_iload_n S.1 S.2.1 dX_load_0 rfl (lv_at hl 2 rfl) ?_
  refine lv_iconst (v := 1) S.1 S.2.1 dX_load_1 (by decide) ?_
  refine lv_icmp_lt (tgt := 17) S.1 S.2.1 dX_load_2 (by decide) (fun _ => ?_) (fun g1 => absurd hlo g1)
  refine lv_iconst (v := 0) S.1 S.2.1 dX_load_17 (by decide) ?_
  exact rt_z S hr hk hK hP hD hS rfl ((by simp [ldf, hlo])) dX_load_18

set_option maxHeartbeats 4000000 in
set_option maxRecDepth 100000 in
theorem c_X_load_hi (l : Launch) (D : va_G) (a : AX) (sz : Nat) (pc ac lk mq ma mb ir sw io dl ha rd sn md kf kb cn pf : Int32) (co ou : Nat → Int32) (x n : Int32) (w : Int64) (hlo : ¬ n < 1) (hhi : 5 < n) : MI l D (wx a) (tx a) sz yX_load cX_load 6 (some .boolean) 1 [.ref a.1, .int x, .int n, .long w] (pc, ac, lk, mq, ma, mb, ir, sw, io, dl, ha, rd, sn, md, kf, kb, cn, pf, co, ou) (fun r u => (r, u) = ldf x n w (pc, ac, lk, mq, ma, mb, ir, sw, io, dl, ha, rd, sn, md, kf, kb, cn, pf, co, ou)) := by
  refine en_i RX rfl (by decide) (Nat.le_of_ble_eq_true rfl) ?_
  intro p e s m below meth c A ls S hr hk hA hN hK hP hD hS hl
  have hl : lv_has ls 6 [(0, .ref a.1), (1, .int x), (2, .int n), (3, .long w)] := hl
  refine lv_iload_n S.1 S.2.1 dX_load_0 rfl (lv_at hl 2 rfl) ?_
  refine lv_iconst (v := 1) S.1 S.2.1 dX_load_1 (by decide) ?_
  refine lv_icmp_lt (tgt := 17) S.1 S.2.1 dX_load_2 (by decide) (fun g1 => absurd g1 hlo) (fun _ => ?_)
  refine lv_iload_n S.1 S.2.1 dX_load_5 rfl (lv_at hl 2 rfl) ?_
  refine lv_iconst (v := 5) S.1 S.2.1 dX_load_6 (by decide) ?_
  refine lv_icmp_gt (tgt := 17) S.1 S.2.1 dX_load_7 (by decide) (fun _ => ?_) (fun g2 => absurd hhi g2)
  refine lv_iconst (v := 0) S.1 S.2.1 dX_load_17 (by decide) ?_
  exact rt_z S hr hk hK hP hD hS rfl ((by simp [ldf, hlo, hhi])) dX_load_18

set_option maxHeartbeats 4000000 in
set_option maxRecDepth 100000 in
theorem c_X_load (l : Launch) (D : va_G) (a : AX) (sz : Nat) (pc ac lk mq ma mb ir sw io dl ha rd sn md kf kb cn pf : Int32) (co ou : Nat → Int32) (x n : Int32) (w : Int64) : MI l D (wx a) (tx a) sz yX_load cX_load 6 (some .boolean) 1 [.ref a.1, .int x, .int n, .long w] (pc, ac, lk, mq, ma, mb, ir, sw, io, dl, ha, rd, sn, md, kf, kb, cn, pf, co, ou) (fun r u => (r, u) = ldf x n w (pc, ac, lk, mq, ma, mb, ir, sw, io, dl, ha, rd, sn, md, kf, kb, cn, pf, co, ou)) := by
  by_cases hlo : n < 1
  · exact c_X_load_lo l D a sz pc ac lk mq ma mb ir sw io dl ha rd sn md kf kb cn pf co ou x n w hlo
  by_cases hhi : 5 < n
  · exact c_X_load_hi l D a sz pc ac lk mq ma mb ir sw io dl ha rd sn md kf kb cn pf co ou x n w hlo hhi
  rcases ld_n hlo hhi with rfl | rfl | rfl | rfl | rfl
  · exact c_X_load_1 l D a sz pc ac lk mq ma mb ir sw io dl ha rd sn md kf kb cn pf co ou x w
  · exact c_X_load_2 l D a sz pc ac lk mq ma mb ir sw io dl ha rd sn md kf kb cn pf co ou x w
  · exact c_X_load_3 l D a sz pc ac lk mq ma mb ir sw io dl ha rd sn md kf kb cn pf co ou x w
  · exact c_X_load_4 l D a sz pc ac lk mq ma mb ir sw io dl ha rd sn md kf kb cn pf co ou x w
  · exact c_X_load_5 l D a sz pc ac lk mq ma mb ir sw io dl ha rd sn md kf kb cn pf co ou x w
