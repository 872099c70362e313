set_option maxHeartbeats 4000000 in
set_option maxRecDepth 100000 in
theorem c_M_operate_20 (l : Launch) (D : va_G) (a : AR) (sz : Nat) (pc ac lk mq ma mb ir sw io dl ha rd md kf kb cn pf : Int32) (co ou : Nat → Int32) (I : Iv a.2.2.2.2.2 (pc, ac, lk, mq, ma, mb, ir, sw, io, dl, ha, rd, 20, md, kf, kb, cn, pf, co, ou)) : MI l D (wr a) (tr a) sz yM_operate cM_operate 1 (some .int) 2 [.ref a.1] (pc, ac, lk, mq, ma, mb, ir, sw, io, dl, ha, rd, 20, md, kf, kb, cn, pf, co, ou) (fun r u => (r, u) = mu20 (pc, ac, lk, mq, ma, mb, ir, sw, io, dl, ha, rd, 20, md, kf, kb, cn, pf, co, ou)) := by
  refine en_i RM rfl (by decide) (Nat.le_of_ble_eq_true rfl) ?_
  intro p e s m below meth c A ls S hr hk hA hN hK hP hD hS hl
  have hl : lv_has ls 1 [(0, .ref a.1)] := hl
  obtain ⟨⟨hpc, hac, hmq, hma, hmb, hir, hsw⟩, hlk, ⟨hio, hdl, hha, hrd, hkf, hpf⟩, hsn, hlt, hkb, hcn, hn, hco⟩ := I
  refine lv_aload_n S.1 S.2.1 dM_operate_0 rfl (lv_at hl 0 rfl) ?_
  refine g_M_M_at S hK hP dM_operate_1 ?_
  refine lv_tableIn (off := 32) (tgt := 36) S.1 S.2.1 dM_operate_4 (by decide +kernel) (by decide +kernel) (by decide +kernel) (by decide) ?_
  refine lv_aload_n S.1 S.2.1 dM_operate_36 rfl (lv_at hl 0 rfl) ?_
  refine lv_sipush (v := 256) S.1 S.2.1 dM_operate_37 (by decide) ?_
  refine cl_i (As := [.int 256]) (rest := []) S hN hK hP hD hS hA hl.1 (c_M_bit l D a _ pc ac lk mq ma mb ir sw io dl ha rd 20 md kf kb cn pf co ou 256) k_M_83 (rc_M hK hP) ⟨by decide, by decide⟩ rfl rfl (Nat.le_of_ble_eq_true rfl) ⟨Nat.le_refl _, Nat.le_refl _⟩ dM_operate_40 (fun r u H locs hw hP hD hS => ?_)
  obtain ⟨g1, rfl, rfl⟩ | ⟨g2, rfl, rfl⟩ := hw
  · refine lv_if_ne (tgt := 51) S.1 S.2.1 dM_operate_43 (by decide) (fun g3 => absurd (by decide) g3) (fun _ => ?_)
    refine lv_bipush (v := 21) S.1 S.2.1 dM_operate_46 (by decide) ?_
    refine lv_goto (tgt := 66) S.1 S.2.1 dM_operate_48 (by decide) ?_
    exact rt_i S hr hk hK hP hD hS ((by simp [mu20, g1])) dM_operate_66
  · refine lv_if_ne (tgt := 51) S.1 S.2.1 dM_operate_43 (by decide) (fun _ => ?_) (fun g4 => absurd g4 (by decide))
    refine lv_aload_n S.1 S.2.1 dM_operate_51 rfl (lv_at hl 0 rfl) ?_
    refine lv_iconst (v := 1) S.1 S.2.1 dM_operate_52 (by decide) ?_
    refine cl_i (As := [.int 1]) (rest := []) S hN hK hP hD hS hA hl.1 (c_M_bit l D a _ pc ac lk mq ma mb ir sw io dl ha rd 20 md kf kb cn pf co ou 1) k_M_83 (rc_M hK hP) ⟨by decide, by decide⟩ rfl rfl (Nat.le_of_ble_eq_true rfl) ⟨Nat.le_refl _, Nat.le_refl _⟩ dM_operate_53 (fun r u H locs hw hP hD hS => ?_)
    obtain ⟨g5, rfl, rfl⟩ | ⟨g6, rfl, rfl⟩ := hw
    · refine lv_if_ne (tgt := 64) S.1 S.2.1 dM_operate_56 (by decide) (fun g7 => absurd (by decide) g7) (fun _ => ?_)
      refine lv_bipush (v := 26) S.1 S.2.1 dM_operate_59 (by decide) ?_
      refine lv_goto (tgt := 66) S.1 S.2.1 dM_operate_61 (by decide) ?_
      exact rt_i S hr hk hK hP hD hS ((by simp [mu20, g2, g5])) dM_operate_66
    · refine lv_if_ne (tgt := 64) S.1 S.2.1 dM_operate_56 (by decide) (fun _ => ?_) (fun g8 => absurd g8 (by decide))
      refine lv_bipush (v := 30) S.1 S.2.1 dM_operate_64 (by decide) ?_
      exact rt_i S hr hk hK hP hD hS ((by simp [mu20, g2, g6])) dM_operate_66

set_option maxHeartbeats 4000000 in
set_option maxRecDepth 100000 in
theorem c_M_operate_21 (l : Launch) (D : va_G) (a : AR) (sz : Nat) (pc ac lk mq ma mb ir sw io dl ha rd md kf kb cn pf : Int32) (co ou : Nat → Int32) (I : Iv a.2.2.2.2.2 (pc, ac, lk, mq, ma, mb, ir, sw, io, dl, ha, rd, 21, md, kf, kb, cn, pf, co, ou)) : MI l D (wr a) (tr a) sz yM_operate cM_operate 1 (some .int) 2 [.ref a.1] (pc, ac, lk, mq, ma, mb, ir, sw, io, dl, ha, rd, 21, md, kf, kb, cn, pf, co, ou) (fun r u => (r, u) = mu21 (pc, ac, lk, mq, ma, mb, ir, sw, io, dl, ha, rd, 21, md, kf, kb, cn, pf, co, ou)) := by
  refine en_i RM rfl (by decide) (Nat.le_of_ble_eq_true rfl) ?_
  intro p e s m below meth c A ls S hr hk hA hN hK hP hD hS hl
  have hl : lv_has ls 1 [(0, .ref a.1)] := hl
  obtain ⟨⟨hpc, hac, hmq, hma, hmb, hir, hsw⟩, hlk, ⟨hio, hdl, hha, hrd, hkf, hpf⟩, hsn, hlt, hkb, hcn, hn, hco⟩ := I
  refine lv_aload_n S.1 S.2.1 dM_operate_0 rfl (lv_at hl 0 rfl) ?_
  refine g_M_M_at S hK hP dM_operate_1 ?_
  refine lv_tableIn (off := 63) (tgt := 67) S.1 S.2.1 dM_operate_4 (by decide +kernel) (by decide +kernel) (by decide +kernel) (by decide) ?_
  refine lv_aload_n S.1 S.2.1 dM_operate_67 rfl (lv_at hl 0 rfl) ?_
  refine lv_aload_n S.1 S.2.1 dM_operate_68 rfl (lv_at hl 0 rfl) ?_
  refine lv_sipush (v := 128) S.1 S.2.1 dM_operate_69 (by decide) ?_
  refine cl_i (As := [.int 128]) (rest := [.ref a.1]) S hN hK hP hD hS hA hl.1 (c_M_bit l D a _ pc ac lk mq ma mb ir sw io dl ha rd 21 md kf kb cn pf co ou 128) k_M_83 (rc_M hK hP) ⟨by decide, by decide⟩ rfl rfl (Nat.le_of_ble_eq_true rfl) ⟨Nat.le_refl _, Nat.le_refl _⟩ dM_operate_72 (fun r u H locs hw hP hD hS => ?_)
  obtain ⟨g1, rfl, rfl⟩ | ⟨g2, rfl, rfl⟩ := hw
  · refine lv_if_eq (tgt := 82) S.1 S.2.1 dM_operate_75 (by decide) (fun _ => ?_) (fun g3 => absurd (by decide) g3)
    refine lv_aload_n S.1 S.2.1 dM_operate_82 rfl (lv_at hl 0 rfl) ?_
    refine g_M_M_ac S hK hP dM_operate_83 ?_
    refine p_M_M_ac S hK hP hD hS dM_operate_86 (fun H locs hP hD hS => ?_)
    refine lv_aload_n S.1 S.2.1 dM_operate_89 rfl (lv_at hl 0 rfl) ?_
    refine lv_aload_n S.1 S.2.1 dM_operate_90 rfl (lv_at hl 0 rfl) ?_
    refine lv_bipush (v := 64) S.1 S.2.1 dM_operate_91 (by decide) ?_
    refine cl_i (As := [.int 64]) (rest := [.ref a.1]) S hN hK hP hD hS hA hl.1 (c_M_bit l D a _ pc ac lk mq ma mb ir sw io dl ha rd 21 md kf kb cn pf co ou 64) k_M_83 (rc_M hK hP) ⟨by decide, by decide⟩ rfl rfl (Nat.le_of_ble_eq_true rfl) ⟨Nat.le_refl _, Nat.le_refl _⟩ dM_operate_93 (fun r u H locs hw hP hD hS => ?_)
    obtain ⟨g4, rfl, rfl⟩ | ⟨g5, rfl, rfl⟩ := hw
    · refine lv_if_eq (tgt := 103) S.1 S.2.1 dM_operate_96 (by decide) (fun _ => ?_) (fun g6 => absurd (by decide) g6)
      refine lv_aload_n S.1 S.2.1 dM_operate_103 rfl (lv_at hl 0 rfl) ?_
      refine g_M_M_link S hK hP dM_operate_104 ?_
      refine p_M_M_link S hK hP hD hS dM_operate_107 (fun H locs hP hD hS => ?_)
      refine lv_bipush (v := 22) S.1 S.2.1 dM_operate_110 (by decide) ?_
      exact rt_i S hr hk hK hP hD hS ((by simp [mu21, g1, g4])) dM_operate_112
    · refine lv_if_eq (tgt := 103) S.1 S.2.1 dM_operate_96 (by decide) (fun g7 => absurd g7 (by decide)) (fun _ => ?_)
      refine lv_iconst (v := 0) S.1 S.2.1 dM_operate_99 (by decide) ?_
      refine lv_goto (tgt := 107) S.1 S.2.1 dM_operate_100 (by decide) ?_
      refine p_M_M_link S hK hP hD hS dM_operate_107 (fun H locs hP hD hS => ?_)
      refine lv_bipush (v := 22) S.1 S.2.1 dM_operate_110 (by decide) ?_
      exact rt_i S hr hk hK hP hD hS ((by simp [mu21, g1, g5])) dM_operate_112
  · refine lv_if_eq (tgt := 82) S.1 S.2.1 dM_operate_75 (by decide) (fun g8 => absurd g8 (by decide)) (fun _ => ?_)
    refine lv_iconst (v := 0) S.1 S.2.1 dM_operate_78 (by decide) ?_
    refine lv_goto (tgt := 86) S.1 S.2.1 dM_operate_79 (by decide) ?_
    refine p_M_M_ac S hK hP hD hS dM_operate_86 (fun H locs hP hD hS => ?_)
    refine lv_aload_n S.1 S.2.1 dM_operate_89 rfl (lv_at hl 0 rfl) ?_
    refine lv_aload_n S.1 S.2.1 dM_operate_90 rfl (lv_at hl 0 rfl) ?_
    refine lv_bipush (v := 64) S.1 S.2.1 dM_operate_91 (by decide) ?_
    refine cl_i (As := [.int 64]) (rest := [.ref a.1]) S hN hK hP hD hS hA hl.1 (c_M_bit l D a _ pc 0 lk mq ma mb ir sw io dl ha rd 21 md kf kb cn pf co ou 64) k_M_83 (rc_M hK hP) ⟨by decide, by decide⟩ rfl rfl (Nat.le_of_ble_eq_true rfl) ⟨Nat.le_refl _, Nat.le_refl _⟩ dM_operate_93 (fun r u H locs hw hP hD hS => ?_)
    obtain ⟨g9, rfl, rfl⟩ | ⟨g10, rfl, rfl⟩ := hw
    · refine lv_if_eq (tgt := 103) S.1 S.2.1 dM_operate_96 (by decide) (fun _ => ?_) (fun g11 => absurd (by decide) g11)
      refine lv_aload_n S.1 S.2.1 dM_operate_103 rfl (lv_at hl 0 rfl) ?_
      refine g_M_M_link S hK hP dM_operate_104 ?_
      refine p_M_M_link S hK hP hD hS dM_operate_107 (fun H locs hP hD hS => ?_)
      refine lv_bipush (v := 22) S.1 S.2.1 dM_operate_110 (by decide) ?_
      exact rt_i S hr hk hK hP hD hS ((by simp [mu21, g2, g9])) dM_operate_112
    · refine lv_if_eq (tgt := 103) S.1 S.2.1 dM_operate_96 (by decide) (fun g12 => absurd g12 (by decide)) (fun _ => ?_)
      refine lv_iconst (v := 0) S.1 S.2.1 dM_operate_99 (by decide) ?_
      refine lv_goto (tgt := 107) S.1 S.2.1 dM_operate_100 (by decide) ?_
      refine p_M_M_link S hK hP hD hS dM_operate_107 (fun H locs hP hD hS => ?_)
      refine lv_bipush (v := 22) S.1 S.2.1 dM_operate_110 (by decide) ?_
      exact rt_i S hr hk hK hP hD hS ((by simp [mu21, g2, g10])) dM_operate_112

set_option maxHeartbeats 4000000 in
set_option maxRecDepth 100000 in
theorem c_M_operate_22 (l : Launch) (D : va_G) (a : AR) (sz : Nat) (pc ac lk mq ma mb ir sw io dl ha rd md kf kb cn pf : Int32) (co ou : Nat → Int32) (I : Iv a.2.2.2.2.2 (pc, ac, lk, mq, ma, mb, ir, sw, io, dl, ha, rd, 22, md, kf, kb, cn, pf, co, ou)) : MI l D (wr a) (tr a) sz yM_operate cM_operate 1 (some .int) 2 [.ref a.1] (pc, ac, lk, mq, ma, mb, ir, sw, io, dl, ha, rd, 22, md, kf, kb, cn, pf, co, ou) (fun r u => (r, u) = mu22 (pc, ac, lk, mq, ma, mb, ir, sw, io, dl, ha, rd, 22, md, kf, kb, cn, pf, co, ou)) := by
  refine en_i RM rfl (by decide) (Nat.le_of_ble_eq_true rfl) ?_
  intro p e s m below meth c A ls S hr hk hA hN hK hP hD hS hl
  have hl : lv_has ls 1 [(0, .ref a.1)] := hl
  obtain ⟨⟨hpc, hac, hmq, hma, hmb, hir, hsw⟩, hlk, ⟨hio, hdl, hha, hrd, hkf, hpf⟩, hsn, hlt, hkb, hcn, hn, hco⟩ := I
  refine lv_aload_n S.1 S.2.1 dM_operate_0 rfl (lv_at hl 0 rfl) ?_
  refine g_M_M_at S hK hP dM_operate_1 ?_
  refine lv_tableIn (off := 109) (tgt := 113) S.1 S.2.1 dM_operate_4 (by decide +kernel) (by decide +kernel) (by decide +kernel) (by decide) ?_
  refine lv_aload_n S.1 S.2.1 dM_operate_113 rfl (lv_at hl 0 rfl) ?_
  refine lv_aload_n S.1 S.2.1 dM_operate_114 rfl (lv_at hl 0 rfl) ?_
  refine lv_bipush (v := 32) S.1 S.2.1 dM_operate_115 (by decide) ?_
  refine cl_i (As := [.int 32]) (rest := [.ref a.1]) S hN hK hP hD hS hA hl.1 (c_M_bit l D a _ pc ac lk mq ma mb ir sw io dl ha rd 22 md kf kb cn pf co ou 32) k_M_83 (rc_M hK hP) ⟨by decide, by decide⟩ rfl rfl (Nat.le_of_ble_eq_true rfl) ⟨Nat.le_refl _, Nat.le_refl _⟩ dM_operate_117 (fun r u H locs hw hP hD hS => ?_)
  obtain ⟨g1, rfl, rfl⟩ | ⟨g2, rfl, rfl⟩ := hw
  · refine lv_if_eq (tgt := 134) S.1 S.2.1 dM_operate_120 (by decide) (fun _ => ?_) (fun g3 => absurd (by decide) g3)
    refine lv_aload_n S.1 S.2.1 dM_operate_134 rfl (lv_at hl 0 rfl) ?_
    refine g_M_M_ac S hK hP dM_operate_135 ?_
    refine p_M_M_ac S hK hP hD hS dM_operate_138 (fun H locs hP hD hS => ?_)
    refine lv_aload_n S.1 S.2.1 dM_operate_141 rfl (lv_at hl 0 rfl) ?_
    refine lv_aload_n S.1 S.2.1 dM_operate_142 rfl (lv_at hl 0 rfl) ?_
    refine lv_bipush (v := 16) S.1 S.2.1 dM_operate_143 (by decide) ?_
    refine cl_i (As := [.int 16]) (rest := [.ref a.1]) S hN hK hP hD hS hA hl.1 (c_M_bit l D a _ pc ac lk mq ma mb ir sw io dl ha rd 22 md kf kb cn pf co ou 16) k_M_83 (rc_M hK hP) ⟨by decide, by decide⟩ rfl rfl (Nat.le_of_ble_eq_true rfl) ⟨Nat.le_refl _, Nat.le_refl _⟩ dM_operate_145 (fun r u H locs hw hP hD hS => ?_)
    obtain ⟨g4, rfl, rfl⟩ | ⟨g5, rfl, rfl⟩ := hw
    · refine lv_if_eq (tgt := 160) S.1 S.2.1 dM_operate_148 (by decide) (fun _ => ?_) (fun g6 => absurd (by decide) g6)
      refine lv_aload_n S.1 S.2.1 dM_operate_160 rfl (lv_at hl 0 rfl) ?_
      refine g_M_M_link S hK hP dM_operate_161 ?_
      refine p_M_M_link S hK hP hD hS dM_operate_164 (fun H locs hP hD hS => ?_)
      refine lv_bipush (v := 23) S.1 S.2.1 dM_operate_167 (by decide) ?_
      exact rt_i S hr hk hK hP hD hS ((by simp [mu22, g1, g4])) dM_operate_169
    · refine lv_if_eq (tgt := 160) S.1 S.2.1 dM_operate_148 (by decide) (fun g7 => absurd g7 (by decide)) (fun _ => ?_)
      refine lv_iconst (v := 1) S.1 S.2.1 dM_operate_151 (by decide) ?_
      refine lv_aload_n S.1 S.2.1 dM_operate_152 rfl (lv_at hl 0 rfl) ?_
      refine g_M_M_link S hK hP dM_operate_153 ?_
      refine lv_isub S.1 S.2.1 dM_operate_156 ?_
      refine lv_goto (tgt := 164) S.1 S.2.1 dM_operate_157 (by decide) ?_
      refine p_M_M_link S hK hP hD hS dM_operate_164 (fun H locs hP hD hS => ?_)
      refine lv_bipush (v := 23) S.1 S.2.1 dM_operate_167 (by decide) ?_
      exact rt_i S hr hk hK hP hD hS ((by simp [mu22, g1, g5])) dM_operate_169
  · refine lv_if_eq (tgt := 134) S.1 S.2.1 dM_operate_120 (by decide) (fun g8 => absurd g8 (by decide)) (fun _ => ?_)
    refine lv_sipush (v := 4095) S.1 S.2.1 dM_operate_123 (by decide) ?_
    refine lv_aload_n S.1 S.2.1 dM_operate_126 rfl (lv_at hl 0 rfl) ?_
    refine g_M_M_ac S hK hP dM_operate_127 ?_
    refine lv_isub S.1 S.2.1 dM_operate_130 ?_
    refine lv_goto (tgt := 138) S.1 S.2.1 dM_operate_131 (by decide) ?_
    refine p_M_M_ac S hK hP hD hS dM_operate_138 (fun H locs hP hD hS => ?_)
    refine lv_aload_n S.1 S.2.1 dM_operate_141 rfl (lv_at hl 0 rfl) ?_
    refine lv_aload_n S.1 S.2.1 dM_operate_142 rfl (lv_at hl 0 rfl) ?_
    refine lv_bipush (v := 16) S.1 S.2.1 dM_operate_143 (by decide) ?_
    refine cl_i (As := [.int 16]) (rest := [.ref a.1]) S hN hK hP hD hS hA hl.1 (c_M_bit l D a _ pc (4095 - ac) lk mq ma mb ir sw io dl ha rd 22 md kf kb cn pf co ou 16) k_M_83 (rc_M hK hP) ⟨by decide, by decide⟩ rfl rfl (Nat.le_of_ble_eq_true rfl) ⟨Nat.le_refl _, Nat.le_refl _⟩ dM_operate_145 (fun r u H locs hw hP hD hS => ?_)
    obtain ⟨g9, rfl, rfl⟩ | ⟨g10, rfl, rfl⟩ := hw
    · refine lv_if_eq (tgt := 160) S.1 S.2.1 dM_operate_148 (by decide) (fun _ => ?_) (fun g11 => absurd (by decide) g11)
      refine lv_aload_n S.1 S.2.1 dM_operate_160 rfl (lv_at hl 0 rfl) ?_
      refine g_M_M_link S hK hP dM_operate_161 ?_
      refine p_M_M_link S hK hP hD hS dM_operate_164 (fun H locs hP hD hS => ?_)
      refine lv_bipush (v := 23) S.1 S.2.1 dM_operate_167 (by decide) ?_
      exact rt_i S hr hk hK hP hD hS ((by simp [mu22, g2, g9])) dM_operate_169
    · refine lv_if_eq (tgt := 160) S.1 S.2.1 dM_operate_148 (by decide) (fun g12 => absurd g12 (by decide)) (fun _ => ?_)
      refine lv_iconst (v := 1) S.1 S.2.1 dM_operate_151 (by decide) ?_
      refine lv_aload_n S.1 S.2.1 dM_operate_152 rfl (lv_at hl 0 rfl) ?_
      refine g_M_M_link S hK hP dM_operate_153 ?_
      refine lv_isub S.1 S.2.1 dM_operate_156 ?_
      refine lv_goto (tgt := 164) S.1 S.2.1 dM_operate_157 (by decide) ?_
      refine p_M_M_link S hK hP hD hS dM_operate_164 (fun H locs hP hD hS => ?_)
      refine lv_bipush (v := 23) S.1 S.2.1 dM_operate_167 (by decide) ?_
      exact rt_i S hr hk hK hP hD hS ((by simp [mu22, g2, g10])) dM_operate_169

set_option maxHeartbeats 4000000 in
set_option maxRecDepth 100000 in
theorem c_M_operate_23 (l : Launch) (D : va_G) (a : AR) (sz : Nat) (pc ac lk mq ma mb ir sw io dl ha rd md kf kb cn pf : Int32) (co ou : Nat → Int32) (I : Iv a.2.2.2.2.2 (pc, ac, lk, mq, ma, mb, ir, sw, io, dl, ha, rd, 23, md, kf, kb, cn, pf, co, ou)) : MI l D (wr a) (tr a) sz yM_operate cM_operate 1 (some .int) 2 [.ref a.1] (pc, ac, lk, mq, ma, mb, ir, sw, io, dl, ha, rd, 23, md, kf, kb, cn, pf, co, ou) (fun r u => (r, u) = mu23 (pc, ac, lk, mq, ma, mb, ir, sw, io, dl, ha, rd, 23, md, kf, kb, cn, pf, co, ou)) := by
  refine en_i RM rfl (by decide) (Nat.le_of_ble_eq_true rfl) ?_
  intro p e s m below meth c A ls S hr hk hA hN hK hP hD hS hl
  have hl : lv_has ls 1 [(0, .ref a.1)] := hl
  obtain ⟨⟨hpc, hac, hmq, hma, hmb, hir, hsw⟩, hlk, ⟨hio, hdl, hha, hrd, hkf, hpf⟩, hsn, hlt, hkb, hcn, hn, hco⟩ := I
  refine lv_aload_n S.1 S.2.1 dM_operate_0 rfl (lv_at hl 0 rfl) ?_
  refine g_M_M_at S hK hP dM_operate_1 ?_
  refine lv_tableIn (off := 166) (tgt := 170) S.1 S.2.1 dM_operate_4 (by decide +kernel) (by decide +kernel) (by decide +kernel) (by decide) ?_
  refine lv_aload_n S.1 S.2.1 dM_operate_170 rfl (lv_at hl 0 rfl) ?_
  refine lv_iconst (v := 1) S.1 S.2.1 dM_operate_171 (by decide) ?_
  refine cl_i (As := [.int 1]) (rest := []) S hN hK hP hD hS hA hl.1 (c_M_bit l D a _ pc ac lk mq ma mb ir sw io dl ha rd 23 md kf kb cn pf co ou 1) k_M_83 (rc_M hK hP) ⟨by decide, by decide⟩ rfl rfl (Nat.le_of_ble_eq_true rfl) ⟨Nat.le_refl _, Nat.le_refl _⟩ dM_operate_172 (fun r u H locs hw hP hD hS => ?_)
  obtain ⟨g1, rfl, rfl⟩ | ⟨g2, rfl, rfl⟩ := hw
  · refine lv_if_eq (tgt := 183) S.1 S.2.1 dM_operate_175 (by decide) (fun _ => ?_) (fun g3 => absurd (by decide) g3)
    refine lv_aload_n S.1 S.2.1 dM_operate_183 rfl (lv_at hl 0 rfl) ?_
    refine lv_bipush (v := 12) S.1 S.2.1 dM_operate_184 (by decide) ?_
    refine cl_i (As := [.int 12]) (rest := []) S hN hK hP hD hS hA hl.1 (c_M_bit l D a _ pc ac lk mq ma mb ir sw io dl ha rd 23 md kf kb cn pf co ou 12) k_M_83 (rc_M hK hP) ⟨by decide, by decide⟩ rfl rfl (Nat.le_of_ble_eq_true rfl) ⟨Nat.le_refl _, Nat.le_refl _⟩ dM_operate_186 (fun r u H locs hw hP hD hS => ?_)
    obtain ⟨g4, rfl, rfl⟩ | ⟨g5, rfl, rfl⟩ := hw
    · refine lv_if_eq (tgt := 197) S.1 S.2.1 dM_operate_189 (by decide) (fun _ => ?_) (fun g6 => absurd (by decide) g6)
      refine lv_iconst (v := 0) S.1 S.2.1 dM_operate_197 (by decide) ?_
      exact rt_i S hr hk hK hP hD hS ((by simp [mu23, g1, g4])) dM_operate_198
    · refine lv_if_eq (tgt := 197) S.1 S.2.1 dM_operate_189 (by decide) (fun g7 => absurd g7 (by decide)) (fun _ => ?_)
      refine lv_bipush (v := 24) S.1 S.2.1 dM_operate_192 (by decide) ?_
      refine lv_goto (tgt := 198) S.1 S.2.1 dM_operate_194 (by decide) ?_
      exact rt_i S hr hk hK hP hD hS ((by simp [mu23, g1, g5])) dM_operate_198
  · refine lv_if_eq (tgt := 183) S.1 S.2.1 dM_operate_175 (by decide) (fun g8 => absurd g8 (by decide)) (fun _ => ?_)
    refine lv_aload_n S.1 S.2.1 dM_operate_178 rfl (lv_at hl 0 rfl) ?_
    refine lv_iconst (v := 1) S.1 S.2.1 dM_operate_179 (by decide) ?_
    refine cl_v (As := [.int 1]) (rest := []) S hN hK hP hD hS hA hl.1 (c_M_add l D a _ pc ac lk mq ma mb ir sw io dl ha rd 23 md kf kb cn pf co ou 1) k_M_86 (rc_M hK hP) ⟨by decide, by decide⟩ rfl rfl (Nat.le_of_ble_eq_true rfl) ⟨Nat.le_refl _, Nat.le_refl _⟩ dM_operate_180 (fun u H locs hw hP hD hS => ?_)
    obtain ⟨g9, rfl⟩ | ⟨g10, rfl⟩ := hw
    · refine lv_aload_n S.1 S.2.1 dM_operate_183 rfl (lv_at hl 0 rfl) ?_
      refine lv_bipush (v := 12) S.1 S.2.1 dM_operate_184 (by decide) ?_
      refine cl_i (As := [.int 12]) (rest := []) S hN hK hP hD hS hA hl.1 (c_M_bit l D a _ pc ((ac + 1) &&& 4095) lk mq ma mb ir sw io dl ha rd 23 md kf kb cn pf co ou 12) k_M_83 (rc_M hK hP) ⟨by decide, by decide⟩ rfl rfl (Nat.le_of_ble_eq_true rfl) ⟨Nat.le_refl _, Nat.le_refl _⟩ dM_operate_186 (fun r u H locs hw hP hD hS => ?_)
      obtain ⟨g11, rfl, rfl⟩ | ⟨g12, rfl, rfl⟩ := hw
      · refine lv_if_eq (tgt := 197) S.1 S.2.1 dM_operate_189 (by decide) (fun _ => ?_) (fun g13 => absurd (by decide) g13)
        refine lv_iconst (v := 0) S.1 S.2.1 dM_operate_197 (by decide) ?_
        exact rt_i S hr hk hK hP hD hS ((by simp [mu23, g2, g9, g11])) dM_operate_198
      · refine lv_if_eq (tgt := 197) S.1 S.2.1 dM_operate_189 (by decide) (fun g14 => absurd g14 (by decide)) (fun _ => ?_)
        refine lv_bipush (v := 24) S.1 S.2.1 dM_operate_192 (by decide) ?_
        refine lv_goto (tgt := 198) S.1 S.2.1 dM_operate_194 (by decide) ?_
        exact rt_i S hr hk hK hP hD hS ((by simp [mu23, g2, g9, g12])) dM_operate_198
    · refine lv_aload_n S.1 S.2.1 dM_operate_183 rfl (lv_at hl 0 rfl) ?_
      refine lv_bipush (v := 12) S.1 S.2.1 dM_operate_184 (by decide) ?_
      refine cl_i (As := [.int 12]) (rest := []) S hN hK hP hD hS hA hl.1 (c_M_bit l D a _ pc ((ac + 1) &&& 4095) (1 - lk) mq ma mb ir sw io dl ha rd 23 md kf kb cn pf co ou 12) k_M_83 (rc_M hK hP) ⟨by decide, by decide⟩ rfl rfl (Nat.le_of_ble_eq_true rfl) ⟨Nat.le_refl _, Nat.le_refl _⟩ dM_operate_186 (fun r u H locs hw hP hD hS => ?_)
      obtain ⟨g15, rfl, rfl⟩ | ⟨g16, rfl, rfl⟩ := hw
      · refine lv_if_eq (tgt := 197) S.1 S.2.1 dM_operate_189 (by decide) (fun _ => ?_) (fun g17 => absurd (by decide) g17)
        refine lv_iconst (v := 0) S.1 S.2.1 dM_operate_197 (by decide) ?_
        exact rt_i S hr hk hK hP hD hS ((by simp [mu23, g2, g10, g15])) dM_operate_198
      · refine lv_if_eq (tgt := 197) S.1 S.2.1 dM_operate_189 (by decide) (fun g18 => absurd g18 (by decide)) (fun _ => ?_)
        refine lv_bipush (v := 24) S.1 S.2.1 dM_operate_192 (by decide) ?_
        refine lv_goto (tgt := 198) S.1 S.2.1 dM_operate_194 (by decide) ?_
        exact rt_i S hr hk hK hP hD hS ((by simp [mu23, g2, g10, g16])) dM_operate_198

set_option maxHeartbeats 4000000 in
set_option maxRecDepth 100000 in
theorem c_M_operate_24 (l : Launch) (D : va_G) (a : AR) (sz : Nat) (pc ac lk mq ma mb ir sw io dl ha rd md kf kb cn pf : Int32) (co ou : Nat → Int32) (I : Iv a.2.2.2.2.2 (pc, ac, lk, mq, ma, mb, ir, sw, io, dl, ha, rd, 24, md, kf, kb, cn, pf, co, ou)) : MI l D (wr a) (tr a) sz yM_operate cM_operate 1 (some .int) 2 [.ref a.1] (pc, ac, lk, mq, ma, mb, ir, sw, io, dl, ha, rd, 24, md, kf, kb, cn, pf, co, ou) (fun r u => (r, u) = mu24 (pc, ac, lk, mq, ma, mb, ir, sw, io, dl, ha, rd, 24, md, kf, kb, cn, pf, co, ou)) := by
  refine en_i RM rfl (by decide) (Nat.le_of_ble_eq_true rfl) ?_
  intro p e s m below meth c A ls S hr hk hA hN hK hP hD hS hl
  have hl : lv_has ls 1 [(0, .ref a.1)] := hl
  obtain ⟨⟨hpc, hac, hmq, hma, hmb, hir, hsw⟩, hlk, ⟨hio, hdl, hha, hrd, hkf, hpf⟩, hsn, hlt, hkb, hcn, hn, hco⟩ := I
  have e0 := ro_e (rg_g hlk hac)
  have e1 := ro_e (ro_r (rg_g hlk hac))
  refine lv_aload_n S.1 S.2.1 dM_operate_0 rfl (lv_at hl 0 rfl) ?_
  refine g_M_M_at S hK hP dM_operate_1 ?_
  refine lv_tableOut (tgt := 199) S.1 S.2.1 dM_operate_4 (by decide +kernel) (by decide) ?_
  refine lv_aload_n S.1 S.2.1 dM_operate_199 rfl (lv_at hl 0 rfl) ?_
  refine cl_v (As := []) (rest := []) S hN hK hP hD hS hA hl.1 (c_M_rotate l D a _ pc ac lk mq ma mb ir sw io dl ha rd 24 md kf kb cn pf co ou ) k_M_90 (rc_M hK hP) ⟨by decide, by decide⟩ rfl rfl (Nat.le_of_ble_eq_true rfl) ⟨Nat.le_refl _, Nat.le_refl _⟩ dM_operate_200 (fun u H locs hw hP hD hS => ?_)
  obtain ⟨g1, g2, rfl⟩ | ⟨g3, g4, rfl⟩ | ⟨g5, g6, rfl⟩ | ⟨g7, g8, rfl⟩ := hw
  · refine lv_aload_n S.1 S.2.1 dM_operate_203 rfl (lv_at hl 0 rfl) ?_
    refine g_M_M_at S hK hP dM_operate_204 ?_
    refine lv_bipush (v := 24) S.1 S.2.1 dM_operate_207 (by decide) ?_
    refine lv_icmp_ne (tgt := 225) S.1 S.2.1 dM_operate_209 (by decide) (fun g9 => absurd (by decide) g9) (fun _ => ?_)
    refine lv_aload_n S.1 S.2.1 dM_operate_212 rfl (lv_at hl 0 rfl) ?_
    refine lv_iconst (v := 2) S.1 S.2.1 dM_operate_213 (by decide) ?_
    refine cl_i (As := [.int 2]) (rest := []) S hN hK hP hD hS hA hl.1 (c_M_bit l D a _ pc (((lk <<< ((12 : Int32) &&& 31)) ||| ac) &&& 4095) (((lk <<< ((12 : Int32) &&& 31)) ||| ac) >>> ((12 : Int32) &&& 31)) mq ma mb ir sw io dl ha rd 24 md kf kb cn pf co ou 2) k_M_83 (rc_M hK hP) ⟨by decide, by decide⟩ rfl rfl (Nat.le_of_ble_eq_true rfl) ⟨Nat.le_refl _, Nat.le_refl _⟩ dM_operate_214 (fun r u H locs hw hP hD hS => ?_)
    obtain ⟨g10, rfl, rfl⟩ | ⟨g11, rfl, rfl⟩ := hw
    · refine lv_if_eq (tgt := 225) S.1 S.2.1 dM_operate_217 (by decide) (fun _ => ?_) (fun g12 => absurd (by decide) g12)
      refine lv_iconst (v := 0) S.1 S.2.1 dM_operate_225 (by decide) ?_
      exact rt_i S hr hk hK hP hD hS ((by simp [mu24, rg_, r1_, r2_, e0, e1, g1, g2, g10])) dM_operate_226
    · refine lv_if_eq (tgt := 225) S.1 S.2.1 dM_operate_217 (by decide) (fun g13 => absurd g13 (by decide)) (fun _ => ?_)
      refine lv_bipush (v := 25) S.1 S.2.1 dM_operate_220 (by decide) ?_
      refine lv_goto (tgt := 226) S.1 S.2.1 dM_operate_222 (by decide) ?_
      exact rt_i S hr hk hK hP hD hS ((by simp [mu24, rg_, r1_, r2_, e0, e1, g1, g2, g11])) dM_operate_226
  · refine lv_aload_n S.1 S.2.1 dM_operate_203 rfl (lv_at hl 0 rfl) ?_
    refine g_M_M_at S hK hP dM_operate_204 ?_
    refine lv_bipush (v := 24) S.1 S.2.1 dM_operate_207 (by decide) ?_
    refine lv_icmp_ne (tgt := 225) S.1 S.2.1 dM_operate_209 (by decide) (fun g14 => absurd (by decide) g14) (fun _ => ?_)
    refine lv_aload_n S.1 S.2.1 dM_operate_212 rfl (lv_at hl 0 rfl) ?_
    refine lv_iconst (v := 2) S.1 S.2.1 dM_operate_213 (by decide) ?_
    refine cl_i (As := [.int 2]) (rest := []) S hN hK hP hD hS hA hl.1 (c_M_bit l D a _ pc ((((((lk <<< ((12 : Int32) &&& 31)) ||| ac) <<< ((1 : Int32) &&& 31)) &&& 8191) ||| (((lk <<< ((12 : Int32) &&& 31)) ||| ac) >>> ((12 : Int32) &&& 31))) &&& 4095) ((((((lk <<< ((12 : Int32) &&& 31)) ||| ac) <<< ((1 : Int32) &&& 31)) &&& 8191) ||| (((lk <<< ((12 : Int32) &&& 31)) ||| ac) >>> ((12 : Int32) &&& 31))) >>> ((12 : Int32) &&& 31)) mq ma mb ir sw io dl ha rd 24 md kf kb cn pf co ou 2) k_M_83 (rc_M hK hP) ⟨by decide, by decide⟩ rfl rfl (Nat.le_of_ble_eq_true rfl) ⟨Nat.le_refl _, Nat.le_refl _⟩ dM_operate_214 (fun r u H locs hw hP hD hS => ?_)
    obtain ⟨g15, rfl, rfl⟩ | ⟨g16, rfl, rfl⟩ := hw
    · refine lv_if_eq (tgt := 225) S.1 S.2.1 dM_operate_217 (by decide) (fun _ => ?_) (fun g17 => absurd (by decide) g17)
      refine lv_iconst (v := 0) S.1 S.2.1 dM_operate_225 (by decide) ?_
      exact rt_i S hr hk hK hP hD hS ((by simp [mu24, rg_, r1_, r2_, e0, e1, g3, g4, g15])) dM_operate_226
    · refine lv_if_eq (tgt := 225) S.1 S.2.1 dM_operate_217 (by decide) (fun g18 => absurd g18 (by decide)) (fun _ => ?_)
      refine lv_bipush (v := 25) S.1 S.2.1 dM_operate_220 (by decide) ?_
      refine lv_goto (tgt := 226) S.1 S.2.1 dM_operate_222 (by decide) ?_
      exact rt_i S hr hk hK hP hD hS ((by simp [mu24, rg_, r1_, r2_, e0, e1, g3, g4, g16])) dM_operate_226
  · refine lv_aload_n S.1 S.2.1 dM_operate_203 rfl (lv_at hl 0 rfl) ?_
    refine g_M_M_at S hK hP dM_operate_204 ?_
    refine lv_bipush (v := 24) S.1 S.2.1 dM_operate_207 (by decide) ?_
    refine lv_icmp_ne (tgt := 225) S.1 S.2.1 dM_operate_209 (by decide) (fun g19 => absurd (by decide) g19) (fun _ => ?_)
    refine lv_aload_n S.1 S.2.1 dM_operate_212 rfl (lv_at hl 0 rfl) ?_
    refine lv_iconst (v := 2) S.1 S.2.1 dM_operate_213 (by decide) ?_
    refine cl_i (As := [.int 2]) (rest := []) S hN hK hP hD hS hA hl.1 (c_M_bit l D a _ pc (((((lk <<< ((12 : Int32) &&& 31)) ||| ac) >>> ((1 : Int32) &&& 31)) ||| ((((lk <<< ((12 : Int32) &&& 31)) ||| ac) &&& 1) <<< ((12 : Int32) &&& 31))) &&& 4095) (((((lk <<< ((12 : Int32) &&& 31)) ||| ac) >>> ((1 : Int32) &&& 31)) ||| ((((lk <<< ((12 : Int32) &&& 31)) ||| ac) &&& 1) <<< ((12 : Int32) &&& 31))) >>> ((12 : Int32) &&& 31)) mq ma mb ir sw io dl ha rd 24 md kf kb cn pf co ou 2) k_M_83 (rc_M hK hP) ⟨by decide, by decide⟩ rfl rfl (Nat.le_of_ble_eq_true rfl) ⟨Nat.le_refl _, Nat.le_refl _⟩ dM_operate_214 (fun r u H locs hw hP hD hS => ?_)
    obtain ⟨g20, rfl, rfl⟩ | ⟨g21, rfl, rfl⟩ := hw
    · refine lv_if_eq (tgt := 225) S.1 S.2.1 dM_operate_217 (by decide) (fun _ => ?_) (fun g22 => absurd (by decide) g22)
      refine lv_iconst (v := 0) S.1 S.2.1 dM_operate_225 (by decide) ?_
      exact rt_i S hr hk hK hP hD hS ((by simp [mu24, rg_, r1_, r2_, e0, e1, g5, g6, g20])) dM_operate_226
    · refine lv_if_eq (tgt := 225) S.1 S.2.1 dM_operate_217 (by decide) (fun g23 => absurd g23 (by decide)) (fun _ => ?_)
      refine lv_bipush (v := 25) S.1 S.2.1 dM_operate_220 (by decide) ?_
      refine lv_goto (tgt := 226) S.1 S.2.1 dM_operate_222 (by decide) ?_
      exact rt_i S hr hk hK hP hD hS ((by simp [mu24, rg_, r1_, r2_, e0, e1, g5, g6, g21])) dM_operate_226
  · refine lv_aload_n S.1 S.2.1 dM_operate_203 rfl (lv_at hl 0 rfl) ?_
    refine g_M_M_at S hK hP dM_operate_204 ?_
    refine lv_bipush (v := 24) S.1 S.2.1 dM_operate_207 (by decide) ?_
    refine lv_icmp_ne (tgt := 225) S.1 S.2.1 dM_operate_209 (by decide) (fun g24 => absurd (by decide) g24) (fun _ => ?_)
    refine lv_aload_n S.1 S.2.1 dM_operate_212 rfl (lv_at hl 0 rfl) ?_
    refine lv_iconst (v := 2) S.1 S.2.1 dM_operate_213 (by decide) ?_
    refine cl_i (As := [.int 2]) (rest := []) S hN hK hP hD hS hA hl.1 (c_M_bit l D a _ pc ((((((((lk <<< ((12 : Int32) &&& 31)) ||| ac) >>> ((1 : Int32) &&& 31)) ||| ((((lk <<< ((12 : Int32) &&& 31)) ||| ac) &&& 1) <<< ((12 : Int32) &&& 31))) <<< ((1 : Int32) &&& 31)) &&& 8191) ||| (((((lk <<< ((12 : Int32) &&& 31)) ||| ac) >>> ((1 : Int32) &&& 31)) ||| ((((lk <<< ((12 : Int32) &&& 31)) ||| ac) &&& 1) <<< ((12 : Int32) &&& 31))) >>> ((12 : Int32) &&& 31))) &&& 4095) ((((((((lk <<< ((12 : Int32) &&& 31)) ||| ac) >>> ((1 : Int32) &&& 31)) ||| ((((lk <<< ((12 : Int32) &&& 31)) ||| ac) &&& 1) <<< ((12 : Int32) &&& 31))) <<< ((1 : Int32) &&& 31)) &&& 8191) ||| (((((lk <<< ((12 : Int32) &&& 31)) ||| ac) >>> ((1 : Int32) &&& 31)) ||| ((((lk <<< ((12 : Int32) &&& 31)) ||| ac) &&& 1) <<< ((12 : Int32) &&& 31))) >>> ((12 : Int32) &&& 31))) >>> ((12 : Int32) &&& 31)) mq ma mb ir sw io dl ha rd 24 md kf kb cn pf co ou 2) k_M_83 (rc_M hK hP) ⟨by decide, by decide⟩ rfl rfl (Nat.le_of_ble_eq_true rfl) ⟨Nat.le_refl _, Nat.le_refl _⟩ dM_operate_214 (fun r u H locs hw hP hD hS => ?_)
    obtain ⟨g25, rfl, rfl⟩ | ⟨g26, rfl, rfl⟩ := hw
    · refine lv_if_eq (tgt := 225) S.1 S.2.1 dM_operate_217 (by decide) (fun _ => ?_) (fun g27 => absurd (by decide) g27)
      refine lv_iconst (v := 0) S.1 S.2.1 dM_operate_225 (by decide) ?_
      exact rt_i S hr hk hK hP hD hS ((by simp [mu24, rg_, r1_, r2_, e0, e1, g7, g8, g25])) dM_operate_226
    · refine lv_if_eq (tgt := 225) S.1 S.2.1 dM_operate_217 (by decide) (fun g28 => absurd g28 (by decide)) (fun _ => ?_)
      refine lv_bipush (v := 25) S.1 S.2.1 dM_operate_220 (by decide) ?_
      refine lv_goto (tgt := 226) S.1 S.2.1 dM_operate_222 (by decide) ?_
      exact rt_i S hr hk hK hP hD hS ((by simp [mu24, rg_, r1_, r2_, e0, e1, g7, g8, g26])) dM_operate_226

set_option maxHeartbeats 4000000 in
set_option maxRecDepth 100000 in
theorem c_M_operate_25 (l : Launch) (D : va_G) (a : AR) (sz : Nat) (pc ac lk mq ma mb ir sw io dl ha rd md kf kb cn pf : Int32) (co ou : Nat → Int32) (I : Iv a.2.2.2.2.2 (pc, ac, lk, mq, ma, mb, ir, sw, io, dl, ha, rd, 25, md, kf, kb, cn, pf, co, ou)) : MI l D (wr a) (tr a) sz yM_operate cM_operate 1 (some .int) 2 [.ref a.1] (pc, ac, lk, mq, ma, mb, ir, sw, io, dl, ha, rd, 25, md, kf, kb, cn, pf, co, ou) (fun r u => (r, u) = mu25 (pc, ac, lk, mq, ma, mb, ir, sw, io, dl, ha, rd, 25, md, kf, kb, cn, pf, co, ou)) := by
  refine en_i RM rfl (by decide) (Nat.le_of_ble_eq_true rfl) ?_
  intro p e s m below meth c A ls S hr hk hA hN hK hP hD hS hl
  have hl : lv_has ls 1 [(0, .ref a.1)] := hl
  obtain ⟨⟨hpc, hac, hmq, hma, hmb, hir, hsw⟩, hlk, ⟨hio, hdl, hha, hrd, hkf, hpf⟩, hsn, hlt, hkb, hcn, hn, hco⟩ := I
  have e0 := ro_e (rg_g hlk hac)
  have e1 := ro_e (ro_r (rg_g hlk hac))
  refine lv_aload_n S.1 S.2.1 dM_operate_0 rfl (lv_at hl 0 rfl) ?_
  refine g_M_M_at S hK hP dM_operate_1 ?_
  refine lv_tableOut (tgt := 199) S.1 S.2.1 dM_operate_4 (by decide +kernel) (by decide) ?_
  refine lv_aload_n S.1 S.2.1 dM_operate_199 rfl (lv_at hl 0 rfl) ?_
  refine cl_v (As := []) (rest := []) S hN hK hP hD hS hA hl.1 (c_M_rotate l D a _ pc ac lk mq ma mb ir sw io dl ha rd 25 md kf kb cn pf co ou ) k_M_90 (rc_M hK hP) ⟨by decide, by decide⟩ rfl rfl (Nat.le_of_ble_eq_true rfl) ⟨Nat.le_refl _, Nat.le_refl _⟩ dM_operate_200 (fun u H locs hw hP hD hS => ?_)
  obtain ⟨g1, g2, rfl⟩ | ⟨g3, g4, rfl⟩ | ⟨g5, g6, rfl⟩ | ⟨g7, g8, rfl⟩ := hw
  · refine lv_aload_n S.1 S.2.1 dM_operate_203 rfl (lv_at hl 0 rfl) ?_
    refine g_M_M_at S hK hP dM_operate_204 ?_
    refine lv_bipush (v := 24) S.1 S.2.1 dM_operate_207 (by decide) ?_
    refine lv_icmp_ne (tgt := 225) S.1 S.2.1 dM_operate_209 (by decide) (fun _ => ?_) (fun g9 => absurd g9 (by decide))
    refine lv_iconst (v := 0) S.1 S.2.1 dM_operate_225 (by decide) ?_
    exact rt_i S hr hk hK hP hD hS ((by simp [mu25, rg_, r1_, r2_, e0, e1, g1, g2])) dM_operate_226
  · refine lv_aload_n S.1 S.2.1 dM_operate_203 rfl (lv_at hl 0 rfl) ?_
    refine g_M_M_at S hK hP dM_operate_204 ?_
    refine lv_bipush (v := 24) S.1 S.2.1 dM_operate_207 (by decide) ?_
    refine lv_icmp_ne (tgt := 225) S.1 S.2.1 dM_operate_209 (by decide) (fun _ => ?_) (fun g10 => absurd g10 (by decide))
    refine lv_iconst (v := 0) S.1 S.2.1 dM_operate_225 (by decide) ?_
    exact rt_i S hr hk hK hP hD hS ((by simp [mu25, rg_, r1_, r2_, e0, e1, g3, g4])) dM_operate_226
  · refine lv_aload_n S.1 S.2.1 dM_operate_203 rfl (lv_at hl 0 rfl) ?_
    refine g_M_M_at S hK hP dM_operate_204 ?_
    refine lv_bipush (v := 24) S.1 S.2.1 dM_operate_207 (by decide) ?_
    refine lv_icmp_ne (tgt := 225) S.1 S.2.1 dM_operate_209 (by decide) (fun _ => ?_) (fun g11 => absurd g11 (by decide))
    refine lv_iconst (v := 0) S.1 S.2.1 dM_operate_225 (by decide) ?_
    exact rt_i S hr hk hK hP hD hS ((by simp [mu25, rg_, r1_, r2_, e0, e1, g5, g6])) dM_operate_226
  · refine lv_aload_n S.1 S.2.1 dM_operate_203 rfl (lv_at hl 0 rfl) ?_
    refine g_M_M_at S hK hP dM_operate_204 ?_
    refine lv_bipush (v := 24) S.1 S.2.1 dM_operate_207 (by decide) ?_
    refine lv_icmp_ne (tgt := 225) S.1 S.2.1 dM_operate_209 (by decide) (fun _ => ?_) (fun g12 => absurd g12 (by decide))
    refine lv_iconst (v := 0) S.1 S.2.1 dM_operate_225 (by decide) ?_
    exact rt_i S hr hk hK hP hD hS ((by simp [mu25, rg_, r1_, r2_, e0, e1, g7, g8])) dM_operate_226
