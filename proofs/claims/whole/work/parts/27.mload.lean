set_option maxHeartbeats 4000000 in
set_option maxRecDepth 100000 in
theorem c_M_load_1 (l : Launch) (D : va_G) (a : AR) (sz : Nat) (pc ac lk mq ma mb ir sw io dl ha rd sn md kf kb cn pf : Int32) (co ou : Nat → Int32) (x : Int32) (w : Int64) : MI l D (wr a) (tr a) sz yM_load cM_load 6 (some .boolean) 1 [.ref a.1, .int x, .int 1, .long w] (pc, ac, lk, mq, ma, mb, ir, sw, io, dl, ha, rd, sn, md, kf, kb, cn, pf, co, ou) (fun r u => (r, u) = ldf x 1 w (pc, ac, lk, mq, ma, mb, ir, sw, io, dl, ha, rd, sn, md, kf, kb, cn, pf, co, ou)) := by
  refine en_i RM rfl (by decide) (Nat.le_of_ble_eq_true rfl) ?_
  intro p e s m below meth c A ls S hr hk hA hN hK hP hD hS hl
  have hl : lv_has ls 6 [(0, .ref a.1), (1, .int x), (2, .int 1), (3, .long w)] := hl
  refine lv_iload_n S.1 S.2.1 dM_load_0 rfl (lv_at hl 1 rfl) ?_
  refine cl_iS (As := [.int x]) (rest := []) S hN hK hP hD hS hA hl.1 (c_M_isAddress l D a _ pc ac lk mq ma mb ir sw io dl ha rd sn md kf kb cn pf co ou x) k_M_72 ⟨by decide, by decide⟩ rfl rfl (Nat.le_of_ble_eq_true rfl) ⟨Nat.le_refl _, Nat.le_refl _⟩ dM_load_1 (fun r u H locs hw hP hD hS => ?_)
  obtain ⟨g1, rfl, rfl⟩ | ⟨g2, g3, rfl, rfl⟩ | ⟨g4, g5, rfl, rfl⟩ := hw
  · refine lv_if_eq (tgt := 17) S.1 S.2.1 dM_load_4 (by decide) (fun _ => ?_) (fun g6 => absurd (by decide) g6)
    refine lv_iconst (v := 0) S.1 S.2.1 dM_load_17 (by decide) ?_
    exact rt_z S hr hk hK hP hD hS rfl ((by simp [ldf, g1])) dM_load_18
  · refine lv_if_eq (tgt := 17) S.1 S.2.1 dM_load_4 (by decide) (fun _ => ?_) (fun g7 => absurd (by decide) g7)
    refine lv_iconst (v := 0) S.1 S.2.1 dM_load_17 (by decide) ?_
    exact rt_z S hr hk hK hP hD hS rfl ((by simp [ldf, g2, g3])) dM_load_18
  · refine lv_if_eq (tgt := 17) S.1 S.2.1 dM_load_4 (by decide) (fun g8 => absurd g8 (by decide)) (fun _ => ?_)
    refine lv_iload_n S.1 S.2.1 dM_load_7 rfl (lv_at hl 2 rfl) ?_
    refine lv_iconst (v := 1) S.1 S.2.1 dM_load_8 (by decide) ?_
    refine lv_icmp_lt (tgt := 17) S.1 S.2.1 dM_load_9 (by decide) (fun g9 => absurd g9 (by decide)) (fun _ => ?_)
    refine lv_iload_n S.1 S.2.1 dM_load_12 rfl (lv_at hl 2 rfl) ?_
    refine lv_iconst (v := 5) S.1 S.2.1 dM_load_13 (by decide) ?_
    refine lv_icmp_le (tgt := 19) S.1 S.2.1 dM_load_14 (by decide) (fun _ => ?_) (fun g10 => absurd (by decide) g10)
    refine lv_iconst (v := 0) S.1 S.2.1 dM_load_19 (by decide) ?_
    refine lv_istore S.1 S.2.1 dM_load_20 hl (by decide) rfl (fun ls hl => ?_)
    have hl : lv_has ls 6 [(5, .int 0), (0, .ref a.1), (1, .int x), (2, .int 1), (3, .long w)] := hl
    refine lv_iload S.1 S.2.1 dM_load_22 (lv_at hl 0 rfl) ?_
    refine lv_iload_n S.1 S.2.1 dM_load_24 rfl (lv_at hl 3 rfl) ?_
    refine lv_icmp_ge (tgt := 63) S.1 S.2.1 dM_load_25 (by decide) (fun g11 => absurd g11 (by decide)) (fun _ => ?_)
    refine lv_aload_n S.1 S.2.1 dM_load_28 rfl (lv_at hl 1 rfl) ?_
    refine g_M_M_core S hK hP dM_load_29 ?_
    refine lv_iload_n S.1 S.2.1 dM_load_32 rfl (lv_at hl 2 rfl) ?_
    refine lv_iload S.1 S.2.1 dM_load_33 (lv_at hl 0 rfl) ?_
    refine lv_iadd S.1 S.2.1 dM_load_35 ?_
    refine lv_sipush (v := 4095) S.1 S.2.1 dM_load_36 (by decide) ?_
    refine lv_iand S.1 S.2.1 dM_load_39 ?_
    refine lv_lload_n S.1 S.2.1 dM_load_40 rfl (lv_at hl 4 rfl) ?_
    refine lv_bipush (v := 12) S.1 S.2.1 dM_load_41 (by decide) ?_
    refine lv_iload_n S.1 S.2.1 dM_load_43 rfl (lv_at hl 3 rfl) ?_
    refine lv_iconst (v := 1) S.1 S.2.1 dM_load_44 (by decide) ?_
    refine lv_isub S.1 S.2.1 dM_load_45 ?_
    refine lv_iload S.1 S.2.1 dM_load_46 (lv_at hl 0 rfl) ?_
    refine lv_isub S.1 S.2.1 dM_load_48 ?_
    refine lv_imul S.1 S.2.1 dM_load_49 ?_
    refine lv_lshr S.1 S.2.1 dM_load_50 rfl ?_
    refine lv_l2i S.1 S.2.1 dM_load_51 rfl ?_
    refine lv_sipush (v := 4095) S.1 S.2.1 dM_load_52 (by decide) ?_
    refine lv_iand S.1 S.2.1 dM_load_55 ?_
    refine st_rco S hK hP hD hS (in_4096 _) dM_load_56 (fun H locs hP hD hS => ?_)
    refine lv_iinc (k := 0) (v := 1) S.1 S.2.1 dM_load_57 hl rfl (by first | rfl | decide) (by decide) rfl (fun ls hl => ?_)
    have hl : lv_has ls 6 [(5, .int 1), (0, .ref a.1), (1, .int x), (2, .int 1), (3, .long w)] := hl
    refine lv_goto (tgt := 22) S.1 S.2.1 dM_load_60 (by decide) ?_
    refine lv_iload S.1 S.2.1 dM_load_22 (lv_at hl 0 rfl) ?_
    refine lv_iload_n S.1 S.2.1 dM_load_24 rfl (lv_at hl 3 rfl) ?_
    refine lv_icmp_ge (tgt := 63) S.1 S.2.1 dM_load_25 (by decide) (fun _ => ?_) (fun g12 => absurd (by decide) g12)
    refine lv_iconst (v := 1) S.1 S.2.1 dM_load_63 (by decide) ?_
    exact rt_z S hr hk hK hP hD hS rfl ((by rw [sh_1_0 w]; simp [ldf, g4, g5])) dM_load_64

set_option maxHeartbeats 4000000 in
set_option maxRecDepth 100000 in
theorem c_M_load_2 (l : Launch) (D : va_G) (a : AR) (sz : Nat) (pc ac lk mq ma mb ir sw io dl ha rd sn md kf kb cn pf : Int32) (co ou : Nat → Int32) (x : Int32) (w : Int64) : MI l D (wr a) (tr a) sz yM_load cM_load 6 (some .boolean) 1 [.ref a.1, .int x, .int 2, .long w] (pc, ac, lk, mq, ma, mb, ir, sw, io, dl, ha, rd, sn, md, kf, kb, cn, pf, co, ou) (fun r u => (r, u) = ldf x 2 w (pc, ac, lk, mq, ma, mb, ir, sw, io, dl, ha, rd, sn, md, kf, kb, cn, pf, co, ou)) := by
  refine en_i RM rfl (by decide) (Nat.le_of_ble_eq_true rfl) ?_
  intro p e s m below meth c A ls S hr hk hA hN hK hP hD hS hl
  have hl : lv_has ls 6 [(0, .ref a.1), (1, .int x), (2, .int 2), (3, .long w)] := hl
  refine lv_iload_n S.1 S.2.1 dM_load_0 rfl (lv_at hl 1 rfl) ?_
  refine cl_iS (As := [.int x]) (rest := []) S hN hK hP hD hS hA hl.1 (c_M_isAddress l D a _ pc ac lk mq ma mb ir sw io dl ha rd sn md kf kb cn pf co ou x) k_M_72 ⟨by decide, by decide⟩ rfl rfl (Nat.le_of_ble_eq_true rfl) ⟨Nat.le_refl _, Nat.le_refl _⟩ dM_load_1 (fun r u H locs hw hP hD hS => ?_)
  obtain ⟨g1, rfl, rfl⟩ | ⟨g2, g3, rfl, rfl⟩ | ⟨g4, g5, rfl, rfl⟩ := hw
  · refine lv_if_eq (tgt := 17) S.1 S.2.1 dM_load_4 (by decide) (fun _ => ?_) (fun g6 => absurd (by decide) g6)
    refine lv_iconst (v := 0) S.1 S.2.1 dM_load_17 (by decide) ?_
    exact rt_z S hr hk hK hP hD hS rfl ((by simp [ldf, g1])) dM_load_18
  · refine lv_if_eq (tgt := 17) S.1 S.2.1 dM_load_4 (by decide) (fun _ => ?_) (fun g7 => absurd (by decide) g7)
    refine lv_iconst (v := 0) S.1 S.2.1 dM_load_17 (by decide) ?_
    exact rt_z S hr hk hK hP hD hS rfl ((by simp [ldf, g2, g3])) dM_load_18
  · refine lv_if_eq (tgt := 17) S.1 S.2.1 dM_load_4 (by decide) (fun g8 => absurd g8 (by decide)) (fun _ => ?_)
    refine lv_iload_n S.1 S.2.1 dM_load_7 rfl (lv_at hl 2 rfl) ?_
    refine lv_iconst (v := 1) S.1 S.2.1 dM_load_8 (by decide) ?_
    refine lv_icmp_lt (tgt := 17) S.1 S.2.1 dM_load_9 (by decide) (fun g9 => absurd g9 (by decide)) (fun _ => ?_)
    refine lv_iload_n S.1 S.2.1 dM_load_12 rfl (lv_at hl 2 rfl) ?_
    refine lv_iconst (v := 5) S.1 S.2.1 dM_load_13 (by decide) ?_
    refine lv_icmp_le (tgt := 19) S.1 S.2.1 dM_load_14 (by decide) (fun _ => ?_) (fun g10 => absurd (by decide) g10)
    refine lv_iconst (v := 0) S.1 S.2.1 dM_load_19 (by decide) ?_
    refine lv_istore S.1 S.2.1 dM_load_20 hl (by decide) rfl (fun ls hl => ?_)
    have hl : lv_has ls 6 [(5, .int 0), (0, .ref a.1), (1, .int x), (2, .int 2), (3, .long w)] := hl
    refine lv_iload S.1 S.2.1 dM_load_22 (lv_at hl 0 rfl) ?_
    refine lv_iload_n S.1 S.2.1 dM_load_24 rfl (lv_at hl 3 rfl) ?_
    refine lv_icmp_ge (tgt := 63) S.1 S.2.1 dM_load_25 (by decide) (fun g11 => absurd g11 (by decide)) (fun _ => ?_)
    refine lv_aload_n S.1 S.2.1 dM_load_28 rfl (lv_at hl 1 rfl) ?_
    refine g_M_M_core S hK hP dM_load_29 ?_
    refine lv_iload_n S.1 S.2.1 dM_load_32 rfl (lv_at hl 2 rfl) ?_
    refine lv_iload S.1 S.2.1 dM_load_33 (lv_at hl 0 rfl) ?_
    refine lv_iadd S.1 S.2.1 dM_load_35 ?_
    refine lv_sipush (v := 4095) S.1 S.2.1 dM_load_36 (by decide) ?_
    refine lv_iand S.1 S.2.1 dM_load_39 ?_
    refine lv_lload_n S.1 S.2.1 dM_load_40 rfl (lv_at hl 4 rfl) ?_
    refine lv_bipush (v := 12) S.1 S.2.1 dM_load_41 (by decide) ?_
    refine lv_iload_n S.1 S.2.1 dM_load_43 rfl (lv_at hl 3 rfl) ?_
    refine lv_iconst (v := 1) S.1 S.2.1 dM_load_44 (by decide) ?_
    refine lv_isub S.1 S.2.1 dM_load_45 ?_
    refine lv_iload S.1 S.2.1 dM_load_46 (lv_at hl 0 rfl) ?_
    refine lv_isub S.1 S.2.1 dM_load_48 ?_
    refine lv_imul S.1 S.2.1 dM_load_49 ?_
    refine lv_lshr S.1 S.2.1 dM_load_50 rfl ?_
    refine lv_l2i S.1 S.2.1 dM_load_51 rfl ?_
    refine lv_sipush (v := 4095) S.1 S.2.1 dM_load_52 (by decide) ?_
    refine lv_iand S.1 S.2.1 dM_load_55 ?_
    refine st_rco S hK hP hD hS (in_4096 _) dM_load_56 (fun H locs hP hD hS => ?_)
    refine lv_iinc (k := 0) (v := 1) S.1 S.2.1 dM_load_57 hl rfl (by first | rfl | decide) (by decide) rfl (fun ls hl => ?_)
    have hl : lv_has ls 6 [(5, .int 1), (0, .ref a.1), (1, .int x), (2, .int 2), (3, .long w)] := hl
    refine lv_goto (tgt := 22) S.1 S.2.1 dM_load_60 (by decide) ?_
    refine lv_iload S.1 S.2.1 dM_load_22 (lv_at hl 0 rfl) ?_
    refine lv_iload_n S.1 S.2.1 dM_load_24 rfl (lv_at hl 3 rfl) ?_
    refine lv_icmp_ge (tgt := 63) S.1 S.2.1 dM_load_25 (by decide) (fun g12 => absurd g12 (by decide)) (fun _ => ?_)
    refine lv_aload_n S.1 S.2.1 dM_load_28 rfl (lv_at hl 1 rfl) ?_
    refine g_M_M_core S hK hP dM_load_29 ?_
    refine lv_iload_n S.1 S.2.1 dM_load_32 rfl (lv_at hl 2 rfl) ?_
    refine lv_iload S.1 S.2.1 dM_load_33 (lv_at hl 0 rfl) ?_
    refine lv_iadd S.1 S.2.1 dM_load_35 ?_
    refine lv_sipush (v := 4095) S.1 S.2.1 dM_load_36 (by decide) ?_
    refine lv_iand S.1 S.2.1 dM_load_39 ?_
    refine lv_lload_n S.1 S.2.1 dM_load_40 rfl (lv_at hl 4 rfl) ?_
    refine lv_bipush (v := 12) S.1 S.2.1 dM_load_41 (by decide) ?_
    refine lv_iload_n S.1 S.2.1 dM_load_43 rfl (lv_at hl 3 rfl) ?_
    refine lv_iconst (v := 1) S.1 S.2.1 dM_load_44 (by decide) ?_
    refine lv_isub S.1 S.2.1 dM_load_45 ?_
    refine lv_iload S.1 S.2.1 dM_load_46 (lv_at hl 0 rfl) ?_
    refine lv_isub S.1 S.2.1 dM_load_48 ?_
    refine lv_imul S.1 S.2.1 dM_load_49 ?_
    refine lv_lshr S.1 S.2.1 dM_load_50 rfl ?_
    refine lv_l2i S.1 S.2.1 dM_load_51 rfl ?_
    refine lv_sipush (v := 4095) S.1 S.2.1 dM_load_52 (by decide) ?_
    refine lv_iand S.1 S.2.1 dM_load_55 ?_
    refine st_rco S hK hP hD hS (in_4096 _) dM_load_56 (fun H locs hP hD hS => ?_)
    refine lv_iinc (k := 0) (v := 2) S.1 S.2.1 dM_load_57 hl rfl (by first | rfl | decide) (by decide) rfl (fun ls hl => ?_)
    have hl : lv_has ls 6 [(5, .int 2), (0, .ref a.1), (1, .int x), (2, .int 2), (3, .long w)] := hl
    refine lv_goto (tgt := 22) S.1 S.2.1 dM_load_60 (by decide) ?_
    refine lv_iload S.1 S.2.1 dM_load_22 (lv_at hl 0 rfl) ?_
    refine lv_iload_n S.1 S.2.1 dM_load_24 rfl (lv_at hl 3 rfl) ?_
    refine lv_icmp_ge (tgt := 63) S.1 S.2.1 dM_load_25 (by decide) (fun _ => ?_) (fun g13 => absurd (by decide) g13)
    refine lv_iconst (v := 1) S.1 S.2.1 dM_load_63 (by decide) ?_
    exact rt_z S hr hk hK hP hD hS rfl ((by rw [sh_2_0 w, sh_2_1 w]; simp [ldf, g4, g5])) dM_load_64

set_option maxHeartbeats 4000000 in
set_option maxRecDepth 100000 in
theorem c_M_load_3 (l : Launch) (D : va_G) (a : AR) (sz : Nat) (pc ac lk mq ma mb ir sw io dl ha rd sn md kf kb cn pf : Int32) (co ou : Nat → Int32) (x : Int32) (w : Int64) : MI l D (wr a) (tr a) sz yM_load cM_load 6 (some .boolean) 1 [.ref a.1, .int x, .int 3, .long w] (pc, ac, lk, mq, ma, mb, ir, sw, io, dl, ha, rd, sn, md, kf, kb, cn, pf, co, ou) (fun r u => (r, u) = ldf x 3 w (pc, ac, lk, mq, ma, mb, ir, sw, io, dl, ha, rd, sn, md, kf, kb, cn, pf, co, ou)) := by
  refine en_i RM rfl (by decide) (Nat.le_of_ble_eq_true rfl) ?_
  intro p e s m below meth c A ls S hr hk hA hN hK hP hD hS hl
  have hl : lv_has ls 6 [(0, .ref a.1), (1, .int x), (2, .int 3), (3, .long w)] := hl
  refine lv_iload_n S.1 S.2.1 dM_load_0 rfl (lv_at hl 1 rfl) ?_
  refine cl_iS (As := [.int x]) (rest := []) S hN hK hP hD hS hA hl.1 (c_M_isAddress l D a _ pc ac lk mq ma mb ir sw io dl ha rd sn md kf kb cn pf co ou x) k_M_72 ⟨by decide, by decide⟩ rfl rfl (Nat.le_of_ble_eq_true rfl) ⟨Nat.le_refl _, Nat.le_refl _⟩ dM_load_1 (fun r u H locs hw hP hD hS => ?_)
  obtain ⟨g1, rfl, rfl⟩ | ⟨g2, g3, rfl, rfl⟩ | ⟨g4, g5, rfl, rfl⟩ := hw
  · refine lv_if_eq (tgt := 17) S.1 S.2.1 dM_load_4 (by decide) (fun _ => ?_) (fun g6 => absurd (by decide) g6)
    refine lv_iconst (v := 0) S.1 S.2.1 dM_load_17 (by decide) ?_
    exact rt_z S hr hk hK hP hD hS rfl ((by simp [ldf, g1])) dM_load_18
  · refine lv_if_eq (tgt := 17) S.1 S.2.1 dM_load_4 (by decide) (fun _ => ?_) (fun g7 => absurd (by decide) g7)
    refine lv_iconst (v := 0) S.1 S.2.1 dM_load_17 (by decide) ?_
    exact rt_z S hr hk hK hP hD hS rfl ((by simp [ldf, g2, g3])) dM_load_18
  · refine lv_if_eq (tgt := 17) S.1 S.2.1 dM_load_4 (by decide) (fun g8 => absurd g8 (by decide)) (fun _ => ?_)
    refine lv_iload_n S.1 S.2.1 dM_load_7 rfl (lv_at hl 2 rfl) ?_
    refine lv_iconst (v := 1) S.1 S.2.1 dM_load_8 (by decide) ?_
    refine lv_icmp_lt (tgt := 17) S.1 S.2.1 dM_load_9 (by decide) (fun g9 => absurd g9 (by decide)) (fun _ => ?_)
    refine lv_iload_n S.1 S.2.1 dM_load_12 rfl (lv_at hl 2 rfl) ?_
    refine lv_iconst (v := 5) S.1 S.2.1 dM_load_13 (by decide) ?_
    refine lv_icmp_le (tgt := 19) S.1 S.2.1 dM_load_14 (by decide) (fun _ => ?_) (fun g10 => absurd (by decide) g10)
    refine lv_iconst (v := 0) S.1 S.2.1 dM_load_19 (by decide) ?_
    refine lv_istore S.1 S.2.1 dM_load_20 hl (by decide) rfl (fun ls hl => ?_)
    have hl : lv_has ls 6 [(5, .int 0), (0, .ref a.1), (1, .int x), (2, .int 3), (3, .long w)] := hl
    refine lv_iload S.1 S.2.1 dM_load_22 (lv_at hl 0 rfl) ?_
    refine lv_iload_n S.1 S.2.1 dM_load_24 rfl (lv_at hl 3 rfl) ?_
    refine lv_icmp_ge (tgt := 63) S.1 S.2.1 dM_load_25 (by decide) (fun g11 => absurd g11 (by decide)) (fun _ => ?_)
    refine lv_aload_n S.1 S.2.1 dM_load_28 rfl (lv_at hl 1 rfl) ?_
    refine g_M_M_core S hK hP dM_load_29 ?_
    refine lv_iload_n S.1 S.2.1 dM_load_32 rfl (lv_at hl 2 rfl) ?_
    refine lv_iload S.1 S.2.1 dM_load_33 (lv_at hl 0 rfl) ?_
    refine lv_iadd S.1 S.2.1 dM_load_35 ?_
    refine lv_sipush (v := 4095) S.1 S.2.1 dM_load_36 (by decide) ?_
    refine lv_iand S.1 S.2.1 dM_load_39 ?_
    refine lv_lload_n S.1 S.2.1 dM_load_40 rfl (lv_at hl 4 rfl) ?_
    refine lv_bipush (v := 12) S.1 S.2.1 dM_load_41 (by decide) ?_
    refine lv_iload_n S.1 S.2.1 dM_load_43 rfl (lv_at hl 3 rfl) ?_
    refine lv_iconst (v := 1) S.1 S.2.1 dM_load_44 (by decide) ?_
    refine lv_isub S.1 S.2.1 dM_load_45 ?_
    refine lv_iload S.1 S.2.1 dM_load_46 (lv_at hl 0 rfl) ?_
    refine lv_isub S.1 S.2.1 dM_load_48 ?_
    refine lv_imul S.1 S.2.1 dM_load_49 ?_
    refine lv_lshr S.1 S.2.1 dM_load_50 rfl ?_
    refine lv_l2i S.1 S.2.1 dM_load_51 rfl ?_
    refine lv_sipush (v := 4095) S.1 S.2.1 dM_load_52 (by decide) ?_
    refine lv_iand S.1 S.2.1 dM_load_55 ?_
    refine st_rco S hK hP hD hS (in_4096 _) dM_load_56 (fun H locs hP hD hS => ?_)
    refine lv_iinc (k := 0) (v := 1) S.1 S.2.1 dM_load_57 hl rfl (by first | rfl | decide) (by decide) rfl (fun ls hl => ?_)
    have hl : lv_has ls 6 [(5, .int 1), (0, .ref a.1), (1, .int x), (2, .int 3), (3, .long w)] := hl
    refine lv_goto (tgt := 22) S.1 S.2.1 dM_load_60 (by decide) ?_
    refine lv_iload S.1 S.2.1 dM_load_22 (lv_at hl 0 rfl) ?_
    refine lv_iload_n S.1 S.2.1 dM_load_24 rfl (lv_at hl 3 rfl) ?_
    refine lv_icmp_ge (tgt := 63) S.1 S.2.1 dM_load_25 (by decide) (fun g12 => absurd g12 (by decide)) (fun _ => ?_)
    refine lv_aload_n S.1 S.2.1 dM_load_28 rfl (lv_at hl 1 rfl) ?_
    refine g_M_M_core S hK hP dM_load_29 ?_
    refine lv_iload_n S.1 S.2.1 dM_load_32 rfl (lv_at hl 2 rfl) ?_
    refine lv_iload S.1 S.2.1 dM_load_33 (lv_at hl 0 rfl) ?_
    refine lv_iadd S.1 S.2.1 dM_load_35 ?_
    refine lv_sipush (v := 4095) S.1 S.2.1 dM_load_36 (by decide) ?_
    refine lv_iand S.1 S.2.1 dM_load_39 ?_
    refine lv_lload_n S.1 S.2.1 dM_load_40 rfl (lv_at hl 4 rfl) ?_
    refine lv_bipush (v := 12) S.1 S.2.1 dM_load_41 (by decide) ?_
    refine lv_iload_n S.1 S.2.1 dM_load_43 rfl (lv_at hl 3 rfl) ?_
    refine lv_iconst (v := 1) S.1 S.2.1 dM_load_44 (by decide) ?_
    refine lv_isub S.1 S.2.1 dM_load_45 ?_
    refine lv_iload S.1 S.2.1 dM_load_46 (lv_at hl 0 rfl) ?_
    refine lv_isub S.1 S.2.1 dM_load_48 ?_
    refine lv_imul S.1 S.2.1 dM_load_49 ?_
    refine lv_lshr S.1 S.2.1 dM_load_50 rfl ?_
    refine lv_l2i S.1 S.2.1 dM_load_51 rfl ?_
    refine lv_sipush (v := 4095) S.1 S.2.1 dM_load_52 (by decide) ?_
    refine lv_iand S.1 S.2.1 dM_load_55 ?_
    refine st_rco S hK hP hD hS (in_4096 _) dM_load_56 (fun H locs hP hD hS => ?_)
    refine lv_iinc (k := 0) (v := 2) S.1 S.2.1 dM_load_57 hl rfl (by first | rfl | decide) (by decide) rfl (fun ls hl => ?_)
    have hl : lv_has ls 6 [(5, .int 2), (0, .ref a.1), (1, .int x), (2, .int 3), (3, .long w)] := hl
    refine lv_goto (tgt := 22) S.1 S.2.1 dM_load_60 (by decide) ?_
    refine lv_iload S.1 S.2.1 dM_load_22 (lv_at hl 0 rfl) ?_
    refine lv_iload_n S.1 S.2.1 dM_load_24 rfl (lv_at hl 3 rfl) ?_
    refine lv_icmp_ge (tgt := 63) S.1 S.2.1 dM_load_25 (by decide) (fun g13 => absurd g13 (by decide)) (fun _ => ?_)
    refine lv_aload_n S.1 S.2.1 dM_load_28 rfl (lv_at hl 1 rfl) ?_
    refine g_M_M_core S hK hP dM_load_29 ?_
    refine lv_iload_n S.1 S.2.1 dM_load_32 rfl (lv_at hl 2 rfl) ?_
    refine lv_iload S.1 S.2.1 dM_load_33 (lv_at hl 0 rfl) ?_
    refine lv_iadd S.1 S.2.1 dM_load_35 ?_
    refine lv_sipush (v := 4095) S.1 S.2.1 dM_load_36 (by decide) ?_
    refine lv_iand S.1 S.2.1 dM_load_39 ?_
    refine lv_lload_n S.1 S.2.1 dM_load_40 rfl (lv_at hl 4 rfl) ?_
    refine lv_bipush (v := 12) S.1 S.2.1 dM_load_41 (by decide) ?_
    refine lv_iload_n S.1 S.2.1 dM_load_43 rfl (lv_at hl 3 rfl) ?_
    refine lv_iconst (v := 1) S.1 S.2.1 dM_load_44 (by decide) ?_
    refine lv_isub S.1 S.2.1 dM_load_45 ?_
    refine lv_iload S.1 S.2.1 dM_load_46 (lv_at hl 0 rfl) ?_
    refine lv_isub S.1 S.2.1 dM_load_48 ?_
    refine lv_imul S.1 S.2.1 dM_load_49 ?_
    refine lv_lshr S.1 S.2.1 dM_load_50 rfl ?_
    refine lv_l2i S.1 S.2.1 dM_load_51 rfl ?_
    refine lv_sipush (v := 4095) S.1 S.2.1 dM_load_52 (by decide) ?_
    refine lv_iand S.1 S.2.1 dM_load_55 ?_
    refine st_rco S hK hP hD hS (in_4096 _) dM_load_56 (fun H locs hP hD hS => ?_)
    refine lv_iinc (k := 0) (v := 3) S.1 S.2.1 dM_load_57 hl rfl (by first | rfl | decide) (by decide) rfl (fun ls hl => ?_)
    have hl : lv_has ls 6 [(5, .int 3), (0, .ref a.1), (1, .int x), (2, .int 3), (3, .long w)] := hl
    refine lv_goto (tgt := 22) S.1 S.2.1 dM_load_60 (by decide) ?_
    refine lv_iload S.1 S.2.1 dM_load_22 (lv_at hl 0 rfl) ?_
    refine lv_iload_n S.1 S.2.1 dM_load_24 rfl (lv_at hl 3 rfl) ?_
    refine lv_icmp_ge (tgt := 63) S.1 S.2.1 dM_load_25 (by decide) (fun _ => ?_) (fun g14 => absurd (by decide) g14)
    refine lv_iconst (v := 1) S.1 S.2.1 dM_load_63 (by decide) ?_
    exact rt_z S hr hk hK hP hD hS rfl ((by rw [sh_3_0 w, sh_3_1 w, sh_3_2 w]; simp [ldf, g4, g5])) dM_load_64

set_option maxHeartbeats 4000000 in
set_option maxRecDepth 100000 in
theorem c_M_load_4 (l : Launch) (D : va_G) (a : AR) (sz : Nat) (pc ac lk mq ma mb ir sw io dl ha rd sn md kf kb cn pf : Int32) (co ou : Nat → Int32) (x : Int32) (w : Int64) : MI l D (wr a) (tr a) sz yM_load cM_load 6 (some .boolean) 1 [.ref a.1, .int x, .int 4, .long w] (pc, ac, lk, mq, ma, mb, ir, sw, io, dl, ha, rd, sn, md, kf, kb, cn, pf, co, ou) (fun r u => (r, u) = ldf x 4 w (pc, ac, lk, mq, ma, mb, ir, sw, io, dl, ha, rd, sn, md, kf, kb, cn, pf, co, ou)) := by
  refine en_i RM rfl (by decide) (Nat.le_of_ble_eq_true rfl) ?_
  intro p e s m below meth c A ls S hr hk hA hN hK hP hD hS hl
  have hl : lv_has ls 6 [(0, .ref a.1), (1, .int x), (2, .int 4), (3, .long w)] := hl
  refine lv_iload_n S.1 S.2.1 dM_load_0 rfl (lv_at hl 1 rfl) ?_
  refine cl_iS (As := [.int x]) (rest := []) S hN hK hP hD hS hA hl.1 (c_M_isAddress l D a _ pc ac lk mq ma mb ir sw io dl ha rd sn md kf kb cn pf co ou x) k_M_72 ⟨by decide, by decide⟩ rfl rfl (Nat.le_of_ble_eq_true rfl) ⟨Nat.le_refl _, Nat.le_refl _⟩ dM_load_1 (fun r u H locs hw hP hD hS => ?_)
  obtain ⟨g1, rfl, rfl⟩ | ⟨g2, g3, rfl, rfl⟩ | ⟨g4, g5, rfl, rfl⟩ := hw
  · refine lv_if_eq (tgt := 17) S.1 S.2.1 dM_load_4 (by decide) (fun _ => ?_) (fun g6 => absurd (by decide) g6)
    refine lv_iconst (v := 0) S.1 S.2.1 dM_load_17 (by decide) ?_
    exact rt_z S hr hk hK hP hD hS rfl ((by simp [ldf, g1])) dM_load_18
  · refine lv_if_eq (tgt := 17) S.1 S.2.1 dM_load_4 (by decide) (fun _ => ?_) (fun g7 => absurd (by decide) g7)
    refine lv_iconst (v := 0) S.1 S.2.1 dM_load_17 (by decide) ?_
    exact rt_z S hr hk hK hP hD hS rfl ((by simp [ldf, g2, g3])) dM_load_18
  · refine lv_if_eq (tgt := 17) S.1 S.2.1 dM_load_4 (by decide) (fun g8 => absurd g8 (by decide)) (fun _ => ?_)
    refine lv_iload_n S.1 S.2.1 dM_load_7 rfl (lv_at hl 2 rfl) ?_
    refine lv_iconst (v := 1) S.1 S.2.1 dM_load_8 (by decide) ?_
    refine lv_icmp_lt (tgt := 17) S.1 S.2.1 dM_load_9 (by decide) (fun g9 => absurd g9 (by decide)) (fun _ => ?_)
    refine lv_iload_n S.1 S.2.1 dM_load_12 rfl (lv_at hl 2 rfl) ?_
    refine lv_iconst (v := 5) S.1 S.2.1 dM_load_13 (by decide) ?_
    refine lv_icmp_le (tgt := 19) S.1 S.2.1 dM_load_14 (by decide) (fun _ => ?_) (fun g10 => absurd (by decide) g10)
    refine lv_iconst (v := 0) S.1 S.2.1 dM_load_19 (by decide) ?_
    refine lv_istore S.1 S.2.1 dM_load_20 hl (by decide) rfl (fun ls hl => ?_)
    have hl : lv_has ls 6 [(5, .int 0), (0, .ref a.1), (1, .int x), (2, .int 4), (3, .long w)] := hl
    refine lv_iload S.1 S.2.1 dM_load_22 (lv_at hl 0 rfl) ?_
    refine lv_iload_n S.1 S.2.1 dM_load_24 rfl (lv_at hl 3 rfl) ?_
    refine lv_icmp_ge (tgt := 63) S.1 S.2.1 dM_load_25 (by decide) (fun g11 => absurd g11 (by decide)) (fun _ => ?_)
    refine lv_aload_n S.1 S.2.1 dM_load_28 rfl (lv_at hl 1 rfl) ?_
    refine g_M_M_core S hK hP dM_load_29 ?_
    refine lv_iload_n S.1 S.2.1 dM_load_32 rfl (lv_at hl 2 rfl) ?_
    refine lv_iload S.1 S.2.1 dM_load_33 (lv_at hl 0 rfl) ?_
    refine lv_iadd S.1 S.2.1 dM_load_35 ?_
    refine lv_sipush (v := 4095) S.1 S.2.1 dM_load_36 (by decide) ?_
    refine lv_iand S.1 S.2.1 dM_load_39 ?_
    refine lv_lload_n S.1 S.2.1 dM_load_40 rfl (lv_at hl 4 rfl) ?_
    refine lv_bipush (v := 12) S.1 S.2.1 dM_load_41 (by decide) ?_
    refine lv_iload_n S.1 S.2.1 dM_load_43 rfl (lv_at hl 3 rfl) ?_
    refine lv_iconst (v := 1) S.1 S.2.1 dM_load_44 (by decide) ?_
    refine lv_isub S.1 S.2.1 dM_load_45 ?_
    refine lv_iload S.1 S.2.1 dM_load_46 (lv_at hl 0 rfl) ?_
    refine lv_isub S.1 S.2.1 dM_load_48 ?_
    refine lv_imul S.1 S.2.1 dM_load_49 ?_
    refine lv_lshr S.1 S.2.1 dM_load_50 rfl ?_
    refine lv_l2i S.1 S.2.1 dM_load_51 rfl ?_
    refine lv_sipush (v := 4095) S.1 S.2.1 dM_load_52 (by decide) ?_
    refine lv_iand S.1 S.2.1 dM_load_55 ?_
    refine st_rco S hK hP hD hS (in_4096 _) dM_load_56 (fun H locs hP hD hS => ?_)
    refine lv_iinc (k := 0) (v := 1) S.1 S.2.1 dM_load_57 hl rfl (by first | rfl | decide) (by decide) rfl (fun ls hl => ?_)
    have hl : lv_has ls 6 [(5, .int 1), (0, .ref a.1), (1, .int x), (2, .int 4), (3, .long w)] := hl
    refine lv_goto (tgt := 22) S.1 S.2.1 dM_load_60 (by decide) ?_
    refine lv_iload S.1 S.2.1 dM_load_22 (lv_at hl 0 rfl) ?_
    refine lv_iload_n S.1 S.2.1 dM_load_24 rfl (lv_at hl 3 rfl) ?_
    refine lv_icmp_ge (tgt := 63) S.1 S.2.1 dM_load_25 (by decide) (fun g12 => absurd g12 (by decide)) (fun _ => ?_)
    refine lv_aload_n S.1 S.2.1 dM_load_28 rfl (lv_at hl 1 rfl) ?_
    refine g_M_M_core S hK hP dM_load_29 ?_
    refine lv_iload_n S.1 S.2.1 dM_load_32 rfl (lv_at hl 2 rfl) ?_
    refine lv_iload S.1 S.2.1 dM_load_33 (lv_at hl 0 rfl) ?_
    refine lv_iadd S.1 S.2.1 dM_load_35 ?_
    refine lv_sipush (v := 4095) S.1 S.2.1 dM_load_36 (by decide) ?_
    refine lv_iand S.1 S.2.1 dM_load_39 ?_
    refine lv_lload_n S.1 S.2.1 dM_load_40 rfl (lv_at hl 4 rfl) ?_
    refine lv_bipush (v := 12) S.1 S.2.1 dM_load_41 (by decide) ?_
    refine lv_iload_n S.1 S.2.1 dM_load_43 rfl (lv_at hl 3 rfl) ?_
    refine lv_iconst (v := 1) S.1 S.2.1 dM_load_44 (by decide) ?_
    refine lv_isub S.1 S.2.1 dM_load_45 ?_
    refine lv_iload S.1 S.2.1 dM_load_46 (lv_at hl 0 rfl) ?_
    refine lv_isub S.1 S.2.1 dM_load_48 ?_
    refine lv_imul S.1 S.2.1 dM_load_49 ?_
    refine lv_lshr S.1 S.2.1 dM_load_50 rfl ?_
    refine lv_l2i S.1 S.2.1 dM_load_51 rfl ?_
    refine lv_sipush (v := 4095) S.1 S.2.1 dM_load_52 (by decide) ?_
    refine lv_iand S.1 S.2.1 dM_load_55 ?_
    refine st_rco S hK hP hD hS (in_4096 _) dM_load_56 (fun H locs hP hD hS => ?_)
    refine lv_iinc (k := 0) (v := 2) S.1 S.2.1 dM_load_57 hl rfl (by first | rfl | decide) (by decide) rfl (fun ls hl => ?_)
    have hl : lv_has ls 6 [(5, .int 2), (0, .ref a.1), (1, .int x), (2, .int 4), (3, .long w)] := hl
    refine lv_goto (tgt := 22) S.1 S.2.1 dM_load_60 (by decide) ?_
    refine lv_iload S.1 S.2.1 dM_load_22 (lv_at hl 0 rfl) ?_
    refine lv_iload_n S.1 S.2.1 dM_load_24 rfl (lv_at hl 3 rfl) ?_
    refine lv_icmp_ge (tgt := 63) S.1 S.2.1 dM_load_25 (by decide) (fun g13 => absurd g13 (by decide)) (fun _ => ?_)
    refine lv_aload_n S.1 S.2.1 dM_load_28 rfl (lv_at hl 1 rfl) ?_
    refine g_M_M_core S hK hP dM_load_29 ?_
    refine lv_iload_n S.1 S.2.1 dM_load_32 rfl (lv_at hl 2 rfl) ?_
    refine lv_iload S.1 S.2.1 dM_load_33 (lv_at hl 0 rfl) ?_
    refine lv_iadd S.1 S.2.1 dM_load_35 ?_
    refine lv_sipush (v := 4095) S.1 S.2.1 dM_load_36 (by decide) ?_
    refine lv_iand S.1 S.2.1 dM_load_39 ?_
    refine lv_lload_n S.1 S.2.1 dM_load_40 rfl (lv_at hl 4 rfl) ?_
    refine lv_bipush (v := 12) S.1 S.2.1 dM_load_41 (by decide) ?_
    refine lv_iload_n S.1 S.2.1 dM_load_43 rfl (lv_at hl 3 rfl) ?_
    refine lv_iconst (v := 1) S.1 S.2.1 dM_load_44 (by decide) ?_
    refine lv_isub S.1 S.2.1 dM_load_45 ?_
    refine lv_iload S.1 S.2.1 dM_load_46 (lv_at hl 0 rfl) ?_
    refine lv_isub S.1 S.2.1 dM_load_48 ?_
    refine lv_imul S.1 S.2.1 dM_load_49 ?_
    refine lv_lshr S.1 S.2.1 dM_load_50 rfl ?_
    refine lv_l2i S.1 S.2.1 dM_load_51 rfl ?_
    refine lv_sipush (v := 4095) S.1 S.2.1 dM_load_52 (by decide) ?_
    refine lv_iand S.1 S.2.1 dM_load_55 ?_
    refine st_rco S hK hP hD hS (in_4096 _) dM_load_56 (fun H locs hP hD hS => ?_)
    refine lv_iinc (k := 0) (v := 3) S.1 S.2.1 dM_load_57 hl rfl (by first | rfl | decide) (by decide) rfl (fun ls hl => ?_)
    have hl : lv_has ls 6 [(5, .int 3), (0, .ref a.1), (1, .int x), (2, .int 4), (3, .long w)] := hl
    refine lv_goto (tgt := 22) S.1 S.2.1 dM_load_60 (by decide) ?_
    refine lv_iload S.1 S.2.1 dM_load_22 (lv_at hl 0 rfl) ?_
    refine lv_iload_n S.1 S.2.1 dM_load_24 rfl (lv_at hl 3 rfl) ?_
    refine lv_icmp_ge (tgt := 63) S.1 S.2.1 dM_load_25 (by decide) (fun g14 => absurd g14 (by decide)) (fun _ => ?_)
    refine lv_aload_n S.1 S.2.1 dM_load_28 rfl (lv_at hl 1 rfl) ?_
    refine g_M_M_core S hK hP dM_load_29 ?_
    refine lv_iload_n S.1 S.2.1 dM_load_32 rfl (lv_at hl 2 rfl) ?_
    refine lv_iload S.1 S.2.1 dM_load_33 (lv_at hl 0 rfl) ?_
    refine lv_iadd S.1 S.2.1 dM_load_35 ?_
    refine lv_sipush (v := 4095) S.1 S.2.1 dM_load_36 (by decide) ?_
    refine lv_iand S.1 S.2.1 dM_load_39 ?_
    refine lv_lload_n S.1 S.2.1 dM_load_40 rfl (lv_at hl 4 rfl) ?_
    refine lv_bipush (v := 12) S.1 S.2.1 dM_load_41 (by decide) ?_
    refine lv_iload_n S.1 S.2.1 dM_load_43 rfl (lv_at hl 3 rfl) ?_
    refine lv_iconst (v := 1) S.1 S.2.1 dM_load_44 (by decide) ?_
    refine lv_isub S.1 S.2.1 dM_load_45 ?_
    refine lv_iload S.1 S.2.1 dM_load_46 (lv_at hl 0 rfl) ?_
    refine lv_isub S.1 S.2.1 dM_load_48 ?_
    refine lv_imul S.1 S.2.1 dM_load_49 ?_
    refine lv_lshr S.1 S.2.1 dM_load_50 rfl ?_
    refine lv_l2i S.1 S.2.1 dM_load_51 rfl ?_
    refine lv_sipush (v := 4095) S.1 S.2.1 dM_load_52 (by decide) ?_
    refine lv_iand S.1 S.2.1 dM_load_55 ?_
    refine st_rco S hK hP hD hS (in_4096 _) dM_load_56 (fun H locs hP hD hS => ?_)
    refine lv_iinc (k := 0) (v := 4) S.1 S.2.1 dM_load_57 hl rfl (by first | rfl | decide) (by decide) rfl (fun ls hl => ?_)
    have hl : lv_has ls 6 [(5, .int 4), (0, .ref a.1), (1, .int x), (2, .int 4), (3, .long w)] := hl
    refine lv_goto (tgt := 22) S.1 S.2.1 dM_load_60 (by decide) ?_
    refine lv_iload S.1 S.2.1 dM_load_22 (lv_at hl 0 rfl) ?_
    refine lv_iload_n S.1 S.2.1 dM_load_24 rfl (lv_at hl 3 rfl) ?_
    refine lv_icmp_ge (tgt := 63) S.1 S.2.1 dM_load_25 (by decide) (fun _ => ?_) (fun g15 => absurd (by decide) g15)
    refine lv_iconst (v := 1) S.1 S.2.1 dM_load_63 (by decide) ?_
    exact rt_z S hr hk hK hP hD hS rfl ((by rw [sh_4_0 w, sh_4_1 w, sh_4_2 w, sh_4_3 w]; simp [ldf, g4, g5])) dM_load_64

set_option maxHeartbeats 4000000 in
set_option maxRecDepth 100000 in
theorem c_M_load_5 (l : Launch) (D : va_G) (a : AR) (sz : Nat) (pc ac lk mq ma mb ir sw io dl ha rd sn md kf kb cn pf : Int32) (co ou : Nat → Int32) (x : Int32) (w : Int64) : MI l D (wr a) (tr a) sz yM_load cM_load 6 (some .boolean) 1 [.ref a.1, .int x, .int 5, .long w] (pc, ac, lk, mq, ma, mb, ir, sw, io, dl, ha, rd, sn, md, kf, kb, cn, pf, co, ou) (fun r u => (r, u) = ldf x 5 w (pc, ac, lk, mq, ma, mb, ir, sw, io, dl, ha, rd, sn, md, kf, kb, cn, pf, co, ou)) := by
  refine en_i RM rfl (by decide) (Nat.le_of_ble_eq_true rfl) ?_
  intro p e s m below meth c A ls S hr hk hA hN hK hP hD hS hl
  have hl : lv_has ls 6 [(0, .ref a.1), (1, .int x), (2, .int 5), (3, .long w)] := hl
  refine lv_iload_n S.1 S.2.1 dM_load_0 rfl (lv_at hl 1 rfl) ?_
  refine cl_iS (As := [.int x]) (rest := []) S hN hK hP hD hS hA hl.1 (c_M_isAddress l D a _ pc ac lk mq ma mb ir sw io dl ha rd sn md kf kb cn pf co ou x) k_M_72 ⟨by decide, by decide⟩ rfl rfl (Nat.le_of_ble_eq_true rfl) ⟨Nat.le_refl _, Nat.le_refl _⟩ dM_load_1 (fun r u H locs hw hP hD hS => ?_)
  obtain ⟨g1, rfl, rfl⟩ | ⟨g2, g3, rfl, rfl⟩ | ⟨g4, g5, rfl, rfl⟩ := hw
  · refine lv_if_eq (tgt := 17) S.1 S.2.1 dM_load_4 (by decide) (fun _ => ?_) (fun g6 => absurd (by decide) g6)
    refine lv_iconst (v := 0) S.1 S.2.1 dM_load_17 (by decide) ?_
    exact rt_z S hr hk hK hP hD hS rfl ((by simp [ldf, g1])) dM_load_18
  · refine lv_if_eq (tgt := 17) S.1 S.2.1 dM_load_4 (by decide) (fun _ => ?_) (fun g7 => absurd (by decide) g7)
    refine lv_iconst (v := 0) S.1 S.2.1 dM_load_17 (by decide) ?_
    exact rt_z S hr hk hK hP hD hS rfl ((by simp [ldf, g2, g3])) dM_load_18
  · refine lv_if_eq (tgt := 17) S.1 S.2.1 dM_load_4 (by decide) (fun g8 => absurd g8 (by decide)) (fun _ => ?_)
    refine lv_iload_n S.1 S.2.1 dM_load_7 rfl (lv_at hl 2 rfl) ?_
    refine lv_iconst (v := 1) S.1 S.2.1 dM_load_8 (by decide) ?_
    refine lv_icmp_lt (tgt := 17) S.1 S.2.1 dM_load_9 (by decide) (fun g9 => absurd g9 (by decide)) (fun _ => ?_)
    refine lv_iload_n S.1 S.2.1 dM_load_12 rfl (lv_at hl 2 rfl) ?_
    refine lv_iconst (v := 5) S.1 S.2.1 dM_load_13 (by decide) ?_
    refine lv_icmp_le (tgt := 19) S.1 S.2.1 dM_load_14 (by decide) (fun _ => ?_) (fun g10 => absurd (by decide) g10)
    refine lv_iconst (v := 0) S.1 S.2.1 dM_load_19 (by decide) ?_
    refine lv_istore S.1 S.2.1 dM_load_20 hl (by decide) rfl (fun ls hl => ?_)
    have hl : lv_has ls 6 [(5, .int 0), (0, .ref a.1), (1, .int x), (2, .int 5), (3, .long w)] := hl
    refine lv_iload S.1 S.2.1 dM_load_22 (lv_at hl 0 rfl) ?_
    refine lv_iload_n S.1 S.2.1 dM_load_24 rfl (lv_at hl 3 rfl) ?_
    refine lv_icmp_ge (tgt := 63) S.1 S.2.1 dM_load_25 (by decide) (fun g11 => absurd g11 (by decide)) (fun _ => ?_)
    refine lv_aload_n S.1 S.2.1 dM_load_28 rfl (lv_at hl 1 rfl) ?_
    refine g_M_M_core S hK hP dM_load_29 ?_
    refine lv_iload_n S.1 S.2.1 dM_load_32 rfl (lv_at hl 2 rfl) ?_
    refine lv_iload S.1 S.2.1 dM_load_33 (lv_at hl 0 rfl) ?_
    refine lv_iadd S.1 S.2.1 dM_load_35 ?_
    refine lv_sipush (v := 4095) S.1 S.2.1 dM_load_36 (by decide) ?_
    refine lv_iand S.1 S.2.1 dM_load_39 ?_
    refine lv_lload_n S.1 S.2.1 dM_load_40 rfl (lv_at hl 4 rfl) ?_
    refine lv_bipush (v := 12) S.1 S.2.1 dM_load_41 (by decide) ?_
    refine lv_iload_n S.1 S.2.1 dM_load_43 rfl (lv_at hl 3 rfl) ?_
    refine lv_iconst (v := 1) S.1 S.2.1 dM_load_44 (by decide) ?_
    refine lv_isub S.1 S.2.1 dM_load_45 ?_
    refine lv_iload S.1 S.2.1 dM_load_46 (lv_at hl 0 rfl) ?_
    refine lv_isub S.1 S.2.1 dM_load_48 ?_
    refine lv_imul S.1 S.2.1 dM_load_49 ?_
    refine lv_lshr S.1 S.2.1 dM_load_50 rfl ?_
    refine lv_l2i S.1 S.2.1 dM_load_51 rfl ?_
    refine lv_sipush (v := 4095) S.1 S.2.1 dM_load_52 (by decide) ?_
    refine lv_iand S.1 S.2.1 dM_load_55 ?_
    refine st_rco S hK hP hD hS (in_4096 _) dM_load_56 (fun H locs hP hD hS => ?_)
    refine lv_iinc (k := 0) (v := 1) S.1 S.2.1 dM_load_57 hl rfl (by first | rfl | decide) (by decide) rfl (fun ls hl => ?_)
    have hl : lv_has ls 6 [(5, .int 1), (0, .ref a.1), (1, .int x), (2, .int 5), (3, .long w)] := hl
    refine lv_goto (tgt := 22) S.1 S.2.1 dM_load_60 (by decide) ?_
    refine lv_iload S.1 S.2.1 dM_load_22 (lv_at hl 0 rfl) ?_
    refine lv_iload_n S.1 S.2.1 dM_load_24 rfl (lv_at hl 3 rfl) ?_
    refine lv_icmp_ge (tgt := 63) S.1 S.2.1 dM_load_25 (by decide) (fun g12 => absurd g12 (by decide)) (fun _ => ?_)
    refine lv_aload_n S.1 S.2.1 dM_load_28 rfl (lv_at hl 1 rfl) ?_
    refine g_M_M_core S hK hP dM_load_29 ?_
    refine lv_iload_n S.1 S.2.1 dM_load_32 rfl (lv_at hl 2 rfl) ?_
    refine lv_iload S.1 S.2.1 dM_load_33 (lv_at hl 0 rfl) ?_
    refine lv_iadd S.1 S.2.1 dM_load_35 ?_
    refine lv_sipush (v := 4095) S.1 S.2.1 dM_load_36 (by decide) ?_
    refine lv_iand S.1 S.2.1 dM_load_39 ?_
    refine lv_lload_n S.1 S.2.1 dM_load_40 rfl (lv_at hl 4 rfl) ?_
    refine lv_bipush (v := 12) S.1 S.2.1 dM_load_41 (by decide) ?_
    refine lv_iload_n S.1 S.2.1 dM_load_43 rfl (lv_at hl 3 rfl) ?_
    refine lv_iconst (v := 1) S.1 S.2.1 dM_load_44 (by decide) ?_
    refine lv_isub S.1 S.2.1 dM_load_45 ?_
    refine lv_iload S.1 S.2.1 dM_load_46 (lv_at hl 0 rfl) ?_
    refine lv_isub S.1 S.2.1 dM_load_48 ?_
    refine lv_imul S.1 S.2.1 dM_load_49 ?_
    refine lv_lshr S.1 S.2.1 dM_load_50 rfl ?_
    refine lv_l2i S.1 S.2.1 dM_load_51 rfl ?_
    refine lv_sipush (v := 4095) S.1 S.2.1 dM_load_52 (by decide) ?_
    refine lv_iand S.1 S.2.1 dM_load_55 ?_
    refine st_rco S hK hP hD hS (in_4096 _) dM_load_56 (fun H locs hP hD hS => ?_)
    refine lv_iinc (k := 0) (v := 2) S.1 S.2.1 dM_load_57 hl rfl (by first | rfl | decide) (by decide) rfl (fun ls hl => ?_)
    have hl : lv_has ls 6 [(5, .int 2), (0, .ref a.1), (1, .int x), (2, .int 5), (3, .long w)] := hl
    refine lv_goto (tgt := 22) S.1 S.2.1 dM_load_60 (by decide) ?_
    refine lv_iload S.1 S.2.1 dM_load_22 (lv_at hl 0 rfl) ?_
    refine lv_iload_n S.1 S.2.1 dM_load_24 rfl (lv_at hl 3 rfl) ?_
    refine lv_icmp_ge (tgt := 63) S.1 S.2.1 dM_load_25 (by decide) (fun g13 => absurd g13 (by decide)) (fun _ => ?_)
    refine lv_aload_n S.1 S.2.1 dM_load_28 rfl (lv_at hl 1 rfl) ?_
    refine g_M_M_core S hK hP dM_load_29 ?_
    refine lv_iload_n S.1 S.2.1 dM_load_32 rfl (lv_at hl 2 rfl) ?_
    refine lv_iload S.1 S.2.1 dM_load_33 (lv_at hl 0 rfl) ?_
    refine lv_iadd S.1 S.2.1 dM_load_35 ?_
    refine lv_sipush (v := 4095) S.1 S.2.1 dM_load_36 (by decide) ?_
    refine lv_iand S.1 S.2.1 dM_load_39 ?_
    refine lv_lload_n S.1 S.2.1 dM_load_40 rfl (lv_at hl 4 rfl) ?_
    refine lv_bipush (v := 12) S.1 S.2.1 dM_load_41 (by decide) ?_
    refine lv_iload_n S.1 S.2.1 dM_load_43 rfl (lv_at hl 3 rfl) ?_
    refine lv_iconst (v := 1) S.1 S.2.1 dM_load_44 (by decide) ?_
    refine lv_isub S.1 S.2.1 dM_load_45 ?_
    refine lv_iload S.1 S.2.1 dM_load_46 (lv_at hl 0 rfl) ?_
    refine lv_isub S.1 S.2.1 dM_load_48 ?_
    refine lv_imul S.1 S.2.1 dM_load_49 ?_
    refine lv_lshr S.1 S.2.1 dM_load_50 rfl ?_
    refine lv_l2i S.1 S.2.1 dM_load_51 rfl ?_
    refine lv_sipush (v := 4095) S.1 S.2.1 dM_load_52 (by decide) ?_
    refine lv_iand S.1 S.2.1 dM_load_55 ?_
    refine st_rco S hK hP hD hS (in_4096 _) dM_load_56 (fun H locs hP hD hS => ?_)
    refine lv_iinc (k := 0) (v := 3) S.1 S.2.1 dM_load_57 hl rfl (by first | rfl | decide) (by decide) rfl (fun ls hl => ?_)
    have hl : lv_has ls 6 [(5, .int 3), (0, .ref a.1), (1, .int x), (2, .int 5), (3, .long w)] := hl
    refine lv_goto (tgt := 22) S.1 S.2.1 dM_load_60 (by decide) ?_
    refine lv_iload S.1 S.2.1 dM_load_22 (lv_at hl 0 rfl) ?_
    refine lv_iload_n S.1 S.2.1 dM_load_24 rfl (lv_at hl 3 rfl) ?_
    refine lv_icmp_ge (tgt := 63) S.1 S.2.1 dM_load_25 (by decide) (fun g14 => absurd g14 (by decide)) (fun _ => ?_)
    refine lv_aload_n S.1 S.2.1 dM_load_28 rfl (lv_at hl 1 rfl) ?_
    refine g_M_M_core S hK hP dM_load_29 ?_
    refine lv_iload_n S.1 S.2.1 dM_load_32 rfl (lv_at hl 2 rfl) ?_
    refine lv_iload S.1 S.2.1 dM_load_33 (lv_at hl 0 rfl) ?_
    refine lv_iadd S.1 S.2.1 dM_load_35 ?_
    refine lv_sipush (v := 4095) S.1 S.2.1 dM_load_36 (by decide) ?_
    refine lv_iand S.1 S.2.1 dM_load_39 ?_
    refine lv_lload_n S.1 S.2.1 dM_load_40 rfl (lv_at hl 4 rfl) ?_
    refine lv_bipush (v := 12) S.1 S.2.1 dM_load_41 (by decide) ?_
    refine lv_iload_n S.1 S.2.1 dM_load_43 rfl (lv_at hl 3 rfl) ?_
    refine lv_iconst (v := 1) S.1 S.2.1 dM_load_44 (by decide) ?_
    refine lv_isub S.1 S.2.1 dM_load_45 ?_
    refine lv_iload S.1 S.2.1 dM_load_46 (lv_at hl 0 rfl) ?_
    refine lv_isub S.1 S.2.1 dM_load_48 ?_
    refine lv_imul S.1 S.2.1 dM_load_49 ?_
    refine lv_lshr S.1 S.2.1 dM_load_50 rfl ?_
    refine lv_l2i S.1 S.2.1 dM_load_51 rfl ?_
    refine lv_sipush (v := 4095) S.1 S.2.1 dM_load_52 (by decide) ?_
    refine lv_iand S.1 S.2.1 dM_load_55 ?_
    refine st_rco S hK hP hD hS (in_4096 _) dM_load_56 (fun H locs hP hD hS => ?_)
    refine lv_iinc (k := 0) (v := 4) S.1 S.2.1 dM_load_57 hl rfl (by first | rfl | decide) (by decide) rfl (fun ls hl => ?_)
    have hl : lv_has ls 6 [(5, .int 4), (0, .ref a.1), (1, .int x), (2, .int 5), (3, .long w)] := hl
    refine lv_goto (tgt := 22) S.1 S.2.1 dM_load_60 (by decide) ?_
    refine lv_iload S.1 S.2.1 dM_load_22 (lv_at hl 0 rfl) ?_
    refine lv_iload_n S.1 S.2.1 dM_load_24 rfl (lv_at hl 3 rfl) ?_
    refine lv_icmp_ge (tgt := 63) S.1 S.2.1 dM_load_25 (by decide) (fun g15 => absurd g15 (by decide)) (fun _ => ?_)
    refine lv_aload_n S.1 S.2.1 dM_load_28 rfl (lv_at hl 1 rfl) ?_
    refine g_M_M_core S hK hP dM_load_29 ?_
    refine lv_iload_n S.1 S.2.1 dM_load_32 rfl (lv_at hl 2 rfl) ?_
    refine lv_iload S.1 S.2.1 dM_load_33 (lv_at hl 0 rfl) ?_
    refine lv_iadd S.1 S.2.1 dM_load_35 ?_
    refine lv_sipush (v := 4095) S.1 S.2.1 dM_load_36 (by decide) ?_
    refine lv_iand S.1 S.2.1 dM_load_39 ?_
    refine lv_lload_n S.1 S.2.1 dM_load_40 rfl (lv_at hl 4 rfl) ?_
    refine lv_bipush (v := 12) S.1 S.2.1 dM_load_41 (by decide) ?_
    refine lv_iload_n S.1 S.2.1 dM_load_43 rfl (lv_at hl 3 rfl) ?_
    refine lv_iconst (v := 1) S.1 S.2.1 dM_load_44 (by decide) ?_
    refine lv_isub S.1 S.2.1 dM_load_45 ?_
    refine lv_iload S.1 S.2.1 dM_load_46 (lv_at hl 0 rfl) ?_
    refine lv_isub S.1 S.2.1 dM_load_48 ?_
    refine lv_imul S.1 S.2.1 dM_load_49 ?_
    refine lv_lshr S.1 S.2.1 dM_load_50 rfl ?_
    refine lv_l2i S.1 S.2.1 dM_load_51 rfl ?_
    refine lv_sipush (v := 4095) S.1 S.2.1 dM_load_52 (by decide) ?_
    refine lv_iand S.1 S.2.1 dM_load_55 ?_
    refine st_rco S hK hP hD hS (in_4096 _) dM_load_56 (fun H locs hP hD hS => ?_)
    refine lv_iinc (k := 0) (v := 5) S.1 S.2.1 dM_load_57 hl rfl (by first | rfl | decide) (by decide) rfl (fun ls hl => ?_)
    have hl : lv_has ls 6 [(5, .int 5), (0, .ref a.1), (1, .int x), (2, .int 5), (3, .long w)] := hl
    refine lv_goto (tgt := 22) S.1 S.2.1 dM_load_60 (by decide) ?_
    refine lv_iload S.1 S.2.1 dM_load_22 (lv_at hl 0 rfl) ?_
    refine lv_iload_n S.1 S.2.1 dM_load_24 rfl (lv_at hl 3 rfl) ?_
    refine lv_icmp_ge (tgt := 63) S.1 S.2.1 dM_load_25 (by decide) (fun _ => ?_) (fun g16 => absurd (by decide) g16)
    refine lv_iconst (v := 1) S.1 S.2.1 dM_load_63 (by decide) ?_
    exact rt_z S hr hk hK hP hD hS rfl ((by rw [sh_5_0 w, sh_5_1 w, sh_5_2 w, sh_5_3 w, sh_5_4 w]; simp [ldf, g4, g5])) dM_load_64

set_option maxHeartbeats 4000000 in
set_option maxRecDepth 100000 in
theorem c_M_load_lo (l : Launch) (D : va_G) (a : AR) (sz : Nat) (pc ac lk mq ma mb ir sw io dl ha rd sn md kf kb cn pf : Int32) (co ou : Nat → Int32) (x n : Int32) (w : Int64) (hlo : n < 1) : MI l D (wr a) (tr a) sz yM_load cM_load 6 (some .boolean) 1 [.ref a.1, .int x, .int n, .long w] (pc, ac, lk, mq, ma, mb, ir, sw, io, dl, ha, rd, sn, md, kf, kb, cn, pf, co, ou) (fun r u => (r, u) = ldf x n w (pc, ac, lk, mq, ma, mb, ir, sw, io, dl, ha, rd, sn, md, kf, kb, cn, pf, co, ou)) := by
  refine en_i RM rfl (by decide) (Nat.le_of_ble_eq_true rfl) ?_
  intro p e s m below meth c A ls S hr hk hA hN hK hP hD hS hl
  have hl : lv_has ls 6 [(0, .ref a.1), (1, .int x), (2, .int n), (3, .long w)] := hl
  refine lv_iload_n S.1 S.2.1 dM_load_0 rfl (lv_at hl 1 rfl) ?_
  refine cl_iS (As := [.int x]) (rest := []) S hN hK hP hD hS hA hl.1 (c_M_isAddress l D a _ pc ac lk mq ma mb ir sw io dl ha rd sn md kf kb cn pf co ou x) k_M_72 ⟨by decide, by decide⟩ rfl rfl (Nat.le_of_ble_eq_true rfl) ⟨Nat.le_refl _, Nat.le_refl _⟩ dM_load_1 (fun r u H locs hw hP hD hS => ?_)
  obtain ⟨g1, rfl, rfl⟩ | ⟨g2, g3, rfl, rfl⟩ | ⟨g4, g5, rfl, rfl⟩ := hw
  · refine lv_if_eq (tgt := 17) S.1 S.2.1 dM_load_4 (by decide) (fun _ => ?_) (fun g6 => absurd (by decide) g6)
    refine lv_iconst (v := 0) S.1 S.2.1 dM_load_17 (by decide) ?_
    exact rt_z S hr hk hK hP hD hS rfl ((by simp [ldf, hlo, g1])) dM_load_18
  · refine lv_if_eq (tgt := 17) S.1 S.2.1 dM_load_4 (by decide) (fun _ => ?_) (fun g7 => absurd (by decide) g7)
    refine lv_iconst (v := 0) S.1 S.2.1 dM_load_17 (by decide) ?_
    exact rt_z S hr hk hK hP hD hS rfl ((by simp [ldf, hlo, g2, g3])) dM_load_18
  · refine lv_if_eq (tgt := 17) S.1 S.2.1 dM_load_4 (by decide) (fun g8 => absurd g8 (by decide)) (fun _ => ?_)
    refine lv_iload_n S.1 S.2.1 dM_load_7 rfl (lv_at hl 2 rfl) ?_
    refine lv_iconst (v := 1) S.1 S.2.1 dM_load_8 (by decide) ?_
    refine lv_icmp_lt (tgt := 17) S.1 S.2.1 dM_load_9 (by decide) (fun _ => ?_) (fun g9 => absurd hlo g9)
    refine lv_iconst (v := 0) S.1 S.2.1 dM_load_17 (by decide) ?_
    exact rt_z S hr hk hK hP hD hS rfl ((by simp [ldf, hlo, g4, g5])) dM_load_18

set_option maxHeartbeats 4000000 in
set_option maxRecDepth 100000 in
theorem c_M_load_hi (l : Launch) (D : va_G) (a : AR) (sz : Nat) (pc ac lk mq ma mb ir sw io dl ha rd sn md kf kb cn pf : Int32) (co ou : Nat → Int32) (x n : Int32) (w : Int64) (hlo : ¬ n < 1) (hhi : 5 < n) : MI l D (wr a) (tr a) sz yM_load cM_load 6 (some .boolean) 1 [.ref a.1, .int x, .int n, .long w] (pc, ac, lk, mq, ma, mb, ir, sw, io, dl, ha, rd, sn, md, kf, kb, cn, pf, co, ou) (fun r u => (r, u) = ldf x n w (pc, ac, lk, mq, ma, mb, ir, sw, io, dl, ha, rd, sn, md, kf, kb, cn, pf, co, ou)) := by
  refine en_i RM rfl (by decide) (Nat.le_of_ble_eq_true rfl) ?_
  intro p e s m below meth c A ls S hr hk hA hN hK hP hD hS hl
  have hl : lv_has ls 6 [(0, .ref a.1), (1, .int x), (2, .int n), (3, .long w)] := hl
  refine lv_iload_n S.1 S.2.1 dM_load_0 rfl (lv_at hl 1 rfl) ?_
  refine cl_iS (As := [.int x]) (rest := []) S hN hK hP hD hS hA hl.1 (c_M_isAddress l D a _ pc ac lk mq ma mb ir sw io dl ha rd sn md kf kb cn pf co ou x) k_M_72 ⟨by decide, by decide⟩ rfl rfl (Nat.le_of_ble_eq_true rfl) ⟨Nat.le_refl _, Nat.le_refl _⟩ dM_load_1 (fun r u H locs hw hP hD hS => ?_)
  obtain ⟨g1, rfl, rfl⟩ | ⟨g2, g3, rfl, rfl⟩ | ⟨g4, g5, rfl, rfl⟩ := hw
  · refine lv_if_eq (tgt := 17) S.1 S.2.1 dM_load_4 (by decide) (fun _ => ?_) (fun g6 => absurd (by decide) g6)
    refine lv_iconst (v := 0) S.1 S.2.1 dM_load_17 (by decide) ?_
    exact rt_z S hr hk hK hP hD hS rfl ((by simp [ldf, hlo, hhi, g1])) dM_load_18
  · refine lv_if_eq (tgt := 17) S.1 S.2.1 dM_load_4 (by decide) (fun _ => ?_) (fun g7 => absurd (by decide) g7)
    refine lv_iconst (v := 0) S.1 S.2.1 dM_load_17 (by decide) ?_
    exact rt_z S hr hk hK hP hD hS rfl ((by simp [ldf, hlo, hhi, g2, g3])) dM_load_18
  · refine lv_if_eq (tgt := 17) S.1 S.2.1 dM_load_4 (by decide) (fun g8 => absurd g8 (by decide)) (fun _ => ?_)
    refine lv_iload_n S.1 S.2.1 dM_load_7 rfl (lv_at hl 2 rfl) ?_
    refine lv_iconst (v := 1) S.1 S.2.1 dM_load_8 (by decide) ?_
    refine lv_icmp_lt (tgt := 17) S.1 S.2.1 dM_load_9 (by decide) (fun g9 => absurd g9 hlo) (fun _ => ?_)
    refine lv_iload_n S.1 S.2.1 dM_load_12 rfl (lv_at hl 2 rfl) ?_
    refine lv_iconst (v := 5) S.1 S.2.1 dM_load_13 (by decide) ?_
    refine lv_icmp_le (tgt := 19) S.1 S.2.1 dM_load_14 (by decide) (fun g10 => absurd g10 (Int32.not_le.mpr hhi)) (fun _ => ?_)
    refine lv_iconst (v := 0) S.1 S.2.1 dM_load_17 (by decide) ?_
    exact rt_z S hr hk hK hP hD hS rfl ((by simp [ldf, hlo, hhi, g4, g5])) dM_load_18

set_option maxHeartbeats 4000000 in
set_option maxRecDepth 100000 in
theorem c_M_load (l : Launch) (D : va_G) (a : AR) (sz : Nat) (pc ac lk mq ma mb ir sw io dl ha rd sn md kf kb cn pf : Int32) (co ou : Nat → Int32) (x n : Int32) (w : Int64) : MI l D (wr a) (tr a) sz yM_load cM_load 6 (some .boolean) 1 [.ref a.1, .int x, .int n, .long w] (pc, ac, lk, mq, ma, mb, ir, sw, io, dl, ha, rd, sn, md, kf, kb, cn, pf, co, ou) (fun r u => (r, u) = ldf x n w (pc, ac, lk, mq, ma, mb, ir, sw, io, dl, ha, rd, sn, md, kf, kb, cn, pf, co, ou)) := by
  by_cases hlo : n < 1
  · exact c_M_load_lo l D a sz pc ac lk mq ma mb ir sw io dl ha rd sn md kf kb cn pf co ou x n w hlo
  by_cases hhi : 5 < n
  · exact c_M_load_hi l D a sz pc ac lk mq ma mb ir sw io dl ha rd sn md kf kb cn pf co ou x n w hlo hhi
  rcases ld_n hlo hhi with rfl | rfl | rfl | rfl | rfl
  · exact c_M_load_1 l D a sz pc ac lk mq ma mb ir sw io dl ha rd sn md kf kb cn pf co ou x w
  · exact c_M_load_2 l D a sz pc ac lk mq ma mb ir sw io dl ha rd sn md kf kb cn pf co ou x w
  · exact c_M_load_3 l D a sz pc ac lk mq ma mb ir sw io dl ha rd sn md kf kb cn pf co ou x w
  · exact c_M_load_4 l D a sz pc ac lk mq ma mb ir sw io dl ha rd sn md kf kb cn pf co ou x w
  · exact c_M_load_5 l D a sz pc ac lk mq ma mb ir sw io dl ha rd sn md kf kb cn pf co ou x w
