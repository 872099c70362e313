set_option maxHeartbeats 4000000 in
set_option maxRecDepth 100000 in
theorem c_M_fetch_0 (l : Launch) (D : va_G) (a : AR) (sz : Nat) (pc ac lk mq ma mb ir sw io dl ha rd md kf kb cn pf : Int32) (co ou : Nat → Int32) (I : Iv a.2.2.2.2.2 (pc, ac, lk, mq, ma, mb, ir, sw, io, dl, ha, rd, 0, md, kf, kb, cn, pf, co, ou)) : MI l D (wr a) (tr a) sz yM_fetch cM_fetch 1 (some .int) 1 [.ref a.1] (pc, ac, lk, mq, ma, mb, ir, sw, io, dl, ha, rd, 0, md, kf, kb, cn, pf, co, ou) (fun r u => (r, u) = mu0 (pc, ac, lk, mq, ma, mb, ir, sw, io, dl, ha, rd, 0, md, kf, kb, cn, pf, co, ou)) := by
  refine en_i RM rfl (by decide) (Nat.le_of_ble_eq_true rfl) ?_
  intro p e s m below meth c A ls S hr hk hA hN hK hP hD hS hl
  have hl : lv_has ls 1 [(0, .ref a.1)] := hl
  obtain ⟨⟨hpc, hac, hmq, hma, hmb, hir, hsw⟩, hlk, ⟨hio, hdl, hha, hrd, hkf, hpf⟩, hsn, hlt, hkb, hcn, hn, hco⟩ := I
  refine lv_aload_n S.1 S.2.1 dM_fetch_0 rfl (lv_at hl 0 rfl) ?_
  refine g_M_M_at S hK hP dM_fetch_1 ?_
  refine lv_tableIn (off := 36) (tgt := 40) S.1 S.2.1 dM_fetch_4 (by decide +kernel) (by decide +kernel) (by decide +kernel) (by decide) ?_
  refine lv_aload_n S.1 S.2.1 dM_fetch_40 rfl (lv_at hl 0 rfl) ?_
  refine g_M_M_ion S hK hP dM_fetch_41 ?_
  refine lv_if_eq (tgt := 71) S.1 S.2.1 dM_fetch_44 (by decide) (fun g1 => ?_) (fun g1 => ?_)
  · refine lv_aload_n S.1 S.2.1 dM_fetch_71 rfl (lv_at hl 0 rfl) ?_
    refine lv_iconst (v := 0) S.1 S.2.1 dM_fetch_72 (by decide) ?_
    refine p_M_M_delay S hK hP hD hS rfl rfl dM_fetch_73 (fun H locs hP hD hS => ?_)
    refine lv_aload_n S.1 S.2.1 dM_fetch_76 rfl (lv_at hl 0 rfl) ?_
    refine lv_aload_n S.1 S.2.1 dM_fetch_77 rfl (lv_at hl 0 rfl) ?_
    refine g_M_M_pc S hK hP dM_fetch_78 ?_
    refine p_M_M_ma S hK hP hD hS dM_fetch_81 (fun H locs hP hD hS => ?_)
    refine lv_aload_n S.1 S.2.1 dM_fetch_84 rfl (lv_at hl 0 rfl) ?_
    refine lv_iconst (v := 1) S.1 S.2.1 dM_fetch_85 (by decide) ?_
    refine cl_v (As := [.int 1]) (rest := []) S hN hK hP hD hS hA hl.1 (c_M_skip l D a _ pc ac lk mq pc mb ir sw io 0 ha rd 0 md kf kb cn pf co ou 1) k_M_79 (rc_M hK hP) ⟨by decide, by decide⟩ rfl rfl (Nat.le_of_ble_eq_true rfl) ⟨Nat.le_refl _, Nat.le_refl _⟩ dM_fetch_86 (fun u H locs hw hP hD hS => ?_)
    obtain ⟨g2, rfl⟩ | ⟨g3, rfl⟩ := hw
    · exact absurd g2 (by decide)
    · refine lv_iconst (v := 1) S.1 S.2.1 dM_fetch_89 (by decide) ?_
      exact rt_i S hr hk hK hP hD hS ((by simp [mu0, hma, an_an, g1, g3])) dM_fetch_90
  · refine lv_aload_n S.1 S.2.1 dM_fetch_47 rfl (lv_at hl 0 rfl) ?_
    refine g_M_M_delay S hK hP dM_fetch_48 ?_
    refine lv_if_ne (tgt := 71) S.1 S.2.1 dM_fetch_51 (by decide) (fun g4 => ?_) (fun g4 => ?_)
    · refine lv_aload_n S.1 S.2.1 dM_fetch_71 rfl (lv_at hl 0 rfl) ?_
      refine lv_iconst (v := 0) S.1 S.2.1 dM_fetch_72 (by decide) ?_
      refine p_M_M_delay S hK hP hD hS rfl rfl dM_fetch_73 (fun H locs hP hD hS => ?_)
      refine lv_aload_n S.1 S.2.1 dM_fetch_76 rfl (lv_at hl 0 rfl) ?_
      refine lv_aload_n S.1 S.2.1 dM_fetch_77 rfl (lv_at hl 0 rfl) ?_
      refine g_M_M_pc S hK hP dM_fetch_78 ?_
      refine p_M_M_ma S hK hP hD hS dM_fetch_81 (fun H locs hP hD hS => ?_)
      refine lv_aload_n S.1 S.2.1 dM_fetch_84 rfl (lv_at hl 0 rfl) ?_
      refine lv_iconst (v := 1) S.1 S.2.1 dM_fetch_85 (by decide) ?_
      refine cl_v (As := [.int 1]) (rest := []) S hN hK hP hD hS hA hl.1 (c_M_skip l D a _ pc ac lk mq pc mb ir sw io 0 ha rd 0 md kf kb cn pf co ou 1) k_M_79 (rc_M hK hP) ⟨by decide, by decide⟩ rfl rfl (Nat.le_of_ble_eq_true rfl) ⟨Nat.le_refl _, Nat.le_refl _⟩ dM_fetch_86 (fun u H locs hw hP hD hS => ?_)
      obtain ⟨g5, rfl⟩ | ⟨g6, rfl⟩ := hw
      · exact absurd g5 (by decide)
      · refine lv_iconst (v := 1) S.1 S.2.1 dM_fetch_89 (by decide) ?_
        exact rt_i S hr hk hK hP hD hS ((by simp [mu0, hma, an_an, g1, g4, g6])) dM_fetch_90
    · refine lv_aload_n S.1 S.2.1 dM_fetch_54 rfl (lv_at hl 0 rfl) ?_
      refine g_M_M_keyFlag S hK hP dM_fetch_55 ?_
      refine lv_if_ne (tgt := 68) S.1 S.2.1 dM_fetch_58 (by decide) (fun g7 => ?_) (fun g7 => ?_)
      · refine lv_bipush (v := 40) S.1 S.2.1 dM_fetch_68 (by decide) ?_
        exact rt_i S hr hk hK hP hD hS ((by simp [mu0, hma, an_an, g1, g4, g7])) dM_fetch_70
      · refine lv_aload_n S.1 S.2.1 dM_fetch_61 rfl (lv_at hl 0 rfl) ?_
        refine g_M_M_printFlag S hK hP dM_fetch_62 ?_
        refine lv_if_eq (tgt := 71) S.1 S.2.1 dM_fetch_65 (by decide) (fun g8 => ?_) (fun g8 => ?_)
        · refine lv_aload_n S.1 S.2.1 dM_fetch_71 rfl (lv_at hl 0 rfl) ?_
          refine lv_iconst (v := 0) S.1 S.2.1 dM_fetch_72 (by decide) ?_
          refine p_M_M_delay S hK hP hD hS rfl rfl dM_fetch_73 (fun H locs hP hD hS => ?_)
          refine lv_aload_n S.1 S.2.1 dM_fetch_76 rfl (lv_at hl 0 rfl) ?_
          refine lv_aload_n S.1 S.2.1 dM_fetch_77 rfl (lv_at hl 0 rfl) ?_
          refine g_M_M_pc S hK hP dM_fetch_78 ?_
          refine p_M_M_ma S hK hP hD hS dM_fetch_81 (fun H locs hP hD hS => ?_)
          refine lv_aload_n S.1 S.2.1 dM_fetch_84 rfl (lv_at hl 0 rfl) ?_
          refine lv_iconst (v := 1) S.1 S.2.1 dM_fetch_85 (by decide) ?_
          refine cl_v (As := [.int 1]) (rest := []) S hN hK hP hD hS hA hl.1 (c_M_skip l D a _ pc ac lk mq pc mb ir sw io 0 ha rd 0 md kf kb cn pf co ou 1) k_M_79 (rc_M hK hP) ⟨by decide, by decide⟩ rfl rfl (Nat.le_of_ble_eq_true rfl) ⟨Nat.le_refl _, Nat.le_refl _⟩ dM_fetch_86 (fun u H locs hw hP hD hS => ?_)
          obtain ⟨g9, rfl⟩ | ⟨g10, rfl⟩ := hw
          · exact absurd g9 (by decide)
          · refine lv_iconst (v := 1) S.1 S.2.1 dM_fetch_89 (by decide) ?_
            exact rt_i S hr hk hK hP hD hS ((by simp [mu0, hma, an_an, g1, g4, g7, g8, g10])) dM_fetch_90
        · refine lv_bipush (v := 40) S.1 S.2.1 dM_fetch_68 (by decide) ?_
          exact rt_i S hr hk hK hP hD hS ((by simp [mu0, hma, an_an, g1, g4, g7, g8])) dM_fetch_70

set_option maxHeartbeats 4000000 in
set_option maxRecDepth 100000 in
theorem c_M_fetch_1 (l : Launch) (D : va_G) (a : AR) (sz : Nat) (pc ac lk mq ma mb ir sw io dl ha rd md kf kb cn pf : Int32) (co ou : Nat → Int32) (I : Iv a.2.2.2.2.2 (pc, ac, lk, mq, ma, mb, ir, sw, io, dl, ha, rd, 1, md, kf, kb, cn, pf, co, ou)) : MI l D (wr a) (tr a) sz yM_fetch cM_fetch 1 (some .int) 1 [.ref a.1] (pc, ac, lk, mq, ma, mb, ir, sw, io, dl, ha, rd, 1, md, kf, kb, cn, pf, co, ou) (fun r u => (r, u) = mu1 (pc, ac, lk, mq, ma, mb, ir, sw, io, dl, ha, rd, 1, md, kf, kb, cn, pf, co, ou)) := by
  refine en_i RM rfl (by decide) (Nat.le_of_ble_eq_true rfl) ?_
  intro p e s m below meth c A ls S hr hk hA hN hK hP hD hS hl
  have hl : lv_has ls 1 [(0, .ref a.1)] := hl
  obtain ⟨⟨hpc, hac, hmq, hma, hmb, hir, hsw⟩, hlk, ⟨hio, hdl, hha, hrd, hkf, hpf⟩, hsn, hlt, hkb, hcn, hn, hco⟩ := I
  refine lv_aload_n S.1 S.2.1 dM_fetch_0 rfl (lv_at hl 0 rfl) ?_
  refine g_M_M_at S hK hP dM_fetch_1 ?_
  refine lv_tableIn (off := 87) (tgt := 91) S.1 S.2.1 dM_fetch_4 (by decide +kernel) (by decide +kernel) (by decide +kernel) (by decide) ?_
  refine lv_aload_n S.1 S.2.1 dM_fetch_91 rfl (lv_at hl 0 rfl) ?_
  refine lv_aload_n S.1 S.2.1 dM_fetch_92 rfl (lv_at hl 0 rfl) ?_
  refine g_M_M_core S hK hP dM_fetch_93 ?_
  refine lv_aload_n S.1 S.2.1 dM_fetch_96 rfl (lv_at hl 0 rfl) ?_
  refine g_M_M_ma S hK hP dM_fetch_97 ?_
  refine ld_rco S hK hP (in_w hma) dM_fetch_100 ?_
  refine p_M_M_mb S hK hP hD hS dM_fetch_101 (fun H locs hP hD hS => ?_)
  refine lv_aload_n S.1 S.2.1 dM_fetch_104 rfl (lv_at hl 0 rfl) ?_
  refine lv_aload_n S.1 S.2.1 dM_fetch_105 rfl (lv_at hl 0 rfl) ?_
  refine g_M_M_mb S hK hP dM_fetch_106 ?_
  refine p_M_M_ir S hK hP hD hS dM_fetch_109 (fun H locs hP hD hS => ?_)
  refine lv_aload_n S.1 S.2.1 dM_fetch_112 rfl (lv_at hl 0 rfl) ?_
  refine g_M_M_ir S hK hP dM_fetch_113 ?_
  refine lv_sipush (v := 3584) S.1 S.2.1 dM_fetch_116 (by decide) ?_
  refine lv_icmp_lt (tgt := 127) S.1 S.2.1 dM_fetch_119 (by decide) (fun g1 => ?_) (fun g1 => ?_)
  · refine lv_aload_n S.1 S.2.1 dM_fetch_127 rfl (lv_at hl 0 rfl) ?_
    refine g_M_M_ir S hK hP dM_fetch_128 ?_
    refine lv_sipush (v := 3072) S.1 S.2.1 dM_fetch_131 (by decide) ?_
    refine lv_icmp_lt (tgt := 142) S.1 S.2.1 dM_fetch_134 (by decide) (fun g2 => ?_) (fun g2 => ?_)
    · refine lv_iconst (v := 2) S.1 S.2.1 dM_fetch_142 (by decide) ?_
      exact rt_i S hr hk hK hP hD hS ((by simp [mu1, hma, an_an, g1, g2])) dM_fetch_143
    · refine lv_bipush (v := 32) S.1 S.2.1 dM_fetch_137 (by decide) ?_
      refine lv_goto (tgt := 143) S.1 S.2.1 dM_fetch_139 (by decide) ?_
      exact rt_i S hr hk hK hP hD hS ((by simp [mu1, hma, an_an, g1, g2])) dM_fetch_143
  · refine lv_bipush (v := 20) S.1 S.2.1 dM_fetch_122 (by decide) ?_
    refine lv_goto (tgt := 143) S.1 S.2.1 dM_fetch_124 (by decide) ?_
    exact rt_i S hr hk hK hP hD hS ((by simp [mu1, hma, an_an, g1])) dM_fetch_143

set_option maxHeartbeats 4000000 in
set_option maxRecDepth 100000 in
theorem c_M_fetch_2 (l : Launch) (D : va_G) (a : AR) (sz : Nat) (pc ac lk mq ma mb ir sw io dl ha rd md kf kb cn pf : Int32) (co ou : Nat → Int32) (I : Iv a.2.2.2.2.2 (pc, ac, lk, mq, ma, mb, ir, sw, io, dl, ha, rd, 2, md, kf, kb, cn, pf, co, ou)) : MI l D (wr a) (tr a) sz yM_fetch cM_fetch 1 (some .int) 1 [.ref a.1] (pc, ac, lk, mq, ma, mb, ir, sw, io, dl, ha, rd, 2, md, kf, kb, cn, pf, co, ou) (fun r u => (r, u) = mu2 (pc, ac, lk, mq, ma, mb, ir, sw, io, dl, ha, rd, 2, md, kf, kb, cn, pf, co, ou)) := by
  refine en_i RM rfl (by decide) (Nat.le_of_ble_eq_true rfl) ?_
  intro p e s m below meth c A ls S hr hk hA hN hK hP hD hS hl
  have hl : lv_has ls 1 [(0, .ref a.1)] := hl
  obtain ⟨⟨hpc, hac, hmq, hma, hmb, hir, hsw⟩, hlk, ⟨hio, hdl, hha, hrd, hkf, hpf⟩, hsn, hlt, hkb, hcn, hn, hco⟩ := I
  refine lv_aload_n S.1 S.2.1 dM_fetch_0 rfl (lv_at hl 0 rfl) ?_
  refine g_M_M_at S hK hP dM_fetch_1 ?_
  refine lv_tableIn (off := 140) (tgt := 144) S.1 S.2.1 dM_fetch_4 (by decide +kernel) (by decide +kernel) (by decide +kernel) (by decide) ?_
  refine lv_aload_n S.1 S.2.1 dM_fetch_144 rfl (lv_at hl 0 rfl) ?_
  refine lv_aload_n S.1 S.2.1 dM_fetch_145 rfl (lv_at hl 0 rfl) ?_
  refine g_M_M_ir S hK hP dM_fetch_146 ?_
  refine lv_bipush (v := 127) S.1 S.2.1 dM_fetch_149 (by decide) ?_
  refine lv_iand S.1 S.2.1 dM_fetch_151 ?_
  refine lv_aload_n S.1 S.2.1 dM_fetch_152 rfl (lv_at hl 0 rfl) ?_
  refine lv_sipush (v := 128) S.1 S.2.1 dM_fetch_153 (by decide) ?_
  refine cl_i (As := [.int 128]) (rest := [.int (ir &&& 127), .ref a.1]) S hN hK hP hD hS hA hl.1 (c_M_bit l D a _ pc ac lk mq ma mb ir sw io dl ha rd 2 md kf kb cn pf co ou 128) k_M_83 (rc_M hK hP) ⟨by decide, by decide⟩ rfl rfl (Nat.le_of_ble_eq_true rfl) ⟨Nat.le_refl _, Nat.le_refl _⟩ dM_fetch_156 (fun r u H locs hw hP hD hS => ?_)
  obtain ⟨g1, rfl, rfl⟩ | ⟨g2, rfl, rfl⟩ := hw
  · refine lv_if_eq (tgt := 173) S.1 S.2.1 dM_fetch_159 (by decide) (fun _ => ?_) (fun g3 => absurd (by decide) g3)
    refine lv_iconst (v := 0) S.1 S.2.1 dM_fetch_173 (by decide) ?_
    refine lv_iadd S.1 S.2.1 dM_fetch_174 ?_
    refine p_M_M_ma S hK hP hD hS dM_fetch_175 (fun H locs hP hD hS => ?_)
    refine lv_aload_n S.1 S.2.1 dM_fetch_178 rfl (lv_at hl 0 rfl) ?_
    refine lv_sipush (v := 256) S.1 S.2.1 dM_fetch_179 (by decide) ?_
    refine cl_i (As := [.int 256]) (rest := []) S hN hK hP hD hS hA hl.1 (c_M_bit l D a _ pc ac lk mq ((ir &&& 127) + 0) mb ir sw io dl ha rd 2 md kf kb cn pf co ou 256) k_M_83 (rc_M hK hP) ⟨by decide, by decide⟩ rfl rfl (Nat.le_of_ble_eq_true rfl) ⟨Nat.le_refl _, Nat.le_refl _⟩ dM_fetch_182 (fun r u H locs hw hP hD hS => ?_)
    obtain ⟨g4, rfl, rfl⟩ | ⟨g5, rfl, rfl⟩ := hw
    · refine lv_if_eq (tgt := 192) S.1 S.2.1 dM_fetch_185 (by decide) (fun _ => ?_) (fun g6 => absurd (by decide) g6)
      refine lv_bipush (v := 8) S.1 S.2.1 dM_fetch_192 (by decide) ?_
      refine lv_aload_n S.1 S.2.1 dM_fetch_194 rfl (lv_at hl 0 rfl) ?_
      refine g_M_M_ir S hK hP dM_fetch_195 ?_
      refine lv_sipush (v := 512) S.1 S.2.1 dM_fetch_198 (by decide) ?_
      refine lv_idiv S.1 S.2.1 dM_fetch_201 (by decide) ?_
      refine lv_iadd S.1 S.2.1 dM_fetch_202 ?_
      exact rt_i S hr hk hK hP hD hS ((by simp [mu2, hma, an_an, Int32.add_comm, g1, g4])) dM_fetch_203
    · refine lv_if_eq (tgt := 192) S.1 S.2.1 dM_fetch_185 (by decide) (fun g7 => absurd g7 (by decide)) (fun _ => ?_)
      refine lv_iconst (v := 3) S.1 S.2.1 dM_fetch_188 (by decide) ?_
      refine lv_goto (tgt := 203) S.1 S.2.1 dM_fetch_189 (by decide) ?_
      exact rt_i S hr hk hK hP hD hS ((by simp [mu2, hma, an_an, Int32.add_comm, g1, g5])) dM_fetch_203
  · refine lv_if_eq (tgt := 173) S.1 S.2.1 dM_fetch_159 (by decide) (fun g8 => absurd g8 (by decide)) (fun _ => ?_)
    refine lv_aload_n S.1 S.2.1 dM_fetch_162 rfl (lv_at hl 0 rfl) ?_
    refine g_M_M_ma S hK hP dM_fetch_163 ?_
    refine lv_sipush (v := 3968) S.1 S.2.1 dM_fetch_166 (by decide) ?_
    refine lv_iand S.1 S.2.1 dM_fetch_169 ?_
    refine lv_goto (tgt := 174) S.1 S.2.1 dM_fetch_170 (by decide) ?_
    refine lv_iadd S.1 S.2.1 dM_fetch_174 ?_
    refine p_M_M_ma S hK hP hD hS dM_fetch_175 (fun H locs hP hD hS => ?_)
    refine lv_aload_n S.1 S.2.1 dM_fetch_178 rfl (lv_at hl 0 rfl) ?_
    refine lv_sipush (v := 256) S.1 S.2.1 dM_fetch_179 (by decide) ?_
    refine cl_i (As := [.int 256]) (rest := []) S hN hK hP hD hS hA hl.1 (c_M_bit l D a _ pc ac lk mq ((ir &&& 127) + (ma &&& 3968)) mb ir sw io dl ha rd 2 md kf kb cn pf co ou 256) k_M_83 (rc_M hK hP) ⟨by decide, by decide⟩ rfl rfl (Nat.le_of_ble_eq_true rfl) ⟨Nat.le_refl _, Nat.le_refl _⟩ dM_fetch_182 (fun r u H locs hw hP hD hS => ?_)
    obtain ⟨g9, rfl, rfl⟩ | ⟨g10, rfl, rfl⟩ := hw
    · refine lv_if_eq (tgt := 192) S.1 S.2.1 dM_fetch_185 (by decide) (fun _ => ?_) (fun g11 => absurd (by decide) g11)
      refine lv_bipush (v := 8) S.1 S.2.1 dM_fetch_192 (by decide) ?_
      refine lv_aload_n S.1 S.2.1 dM_fetch_194 rfl (lv_at hl 0 rfl) ?_
      refine g_M_M_ir S hK hP dM_fetch_195 ?_
      refine lv_sipush (v := 512) S.1 S.2.1 dM_fetch_198 (by decide) ?_
      refine lv_idiv S.1 S.2.1 dM_fetch_201 (by decide) ?_
      refine lv_iadd S.1 S.2.1 dM_fetch_202 ?_
      exact rt_i S hr hk hK hP hD hS ((by simp [mu2, hma, an_an, Int32.add_comm, g2, g9])) dM_fetch_203
    · refine lv_if_eq (tgt := 192) S.1 S.2.1 dM_fetch_185 (by decide) (fun g12 => absurd g12 (by decide)) (fun _ => ?_)
      refine lv_iconst (v := 3) S.1 S.2.1 dM_fetch_188 (by decide) ?_
      refine lv_goto (tgt := 203) S.1 S.2.1 dM_fetch_189 (by decide) ?_
      exact rt_i S hr hk hK hP hD hS ((by simp [mu2, hma, an_an, Int32.add_comm, g2, g10])) dM_fetch_203

set_option maxHeartbeats 4000000 in
set_option maxRecDepth 100000 in
theorem c_M_fetch_3 (l : Launch) (D : va_G) (a : AR) (sz : Nat) (pc ac lk mq ma mb ir sw io dl ha rd md kf kb cn pf : Int32) (co ou : Nat → Int32) (I : Iv a.2.2.2.2.2 (pc, ac, lk, mq, ma, mb, ir, sw, io, dl, ha, rd, 3, md, kf, kb, cn, pf, co, ou)) : MI l D (wr a) (tr a) sz yM_fetch cM_fetch 1 (some .int) 1 [.ref a.1] (pc, ac, lk, mq, ma, mb, ir, sw, io, dl, ha, rd, 3, md, kf, kb, cn, pf, co, ou) (fun r u => (r, u) = mu3 (pc, ac, lk, mq, ma, mb, ir, sw, io, dl, ha, rd, 3, md, kf, kb, cn, pf, co, ou)) := by
  refine en_i RM rfl (by decide) (Nat.le_of_ble_eq_true rfl) ?_
  intro p e s m below meth c A ls S hr hk hA hN hK hP hD hS hl
  have hl : lv_has ls 1 [(0, .ref a.1)] := hl
  obtain ⟨⟨hpc, hac, hmq, hma, hmb, hir, hsw⟩, hlk, ⟨hio, hdl, hha, hrd, hkf, hpf⟩, hsn, hlt, hkb, hcn, hn, hco⟩ := I
  refine lv_aload_n S.1 S.2.1 dM_fetch_0 rfl (lv_at hl 0 rfl) ?_
  refine g_M_M_at S hK hP dM_fetch_1 ?_
  refine lv_tableIn (off := 200) (tgt := 204) S.1 S.2.1 dM_fetch_4 (by decide +kernel) (by decide +kernel) (by decide +kernel) (by decide) ?_
  refine lv_aload_n S.1 S.2.1 dM_fetch_204 rfl (lv_at hl 0 rfl) ?_
  refine lv_aload_n S.1 S.2.1 dM_fetch_205 rfl (lv_at hl 0 rfl) ?_
  refine g_M_M_core S hK hP dM_fetch_206 ?_
  refine lv_aload_n S.1 S.2.1 dM_fetch_209 rfl (lv_at hl 0 rfl) ?_
  refine g_M_M_ma S hK hP dM_fetch_210 ?_
  refine ld_rco S hK hP (in_w hma) dM_fetch_213 ?_
  refine p_M_M_mb S hK hP hD hS dM_fetch_214 (fun H locs hP hD hS => ?_)
  refine lv_aload_n S.1 S.2.1 dM_fetch_217 rfl (lv_at hl 0 rfl) ?_
  refine g_M_M_ma S hK hP dM_fetch_218 ?_
  refine lv_bipush (v := 8) S.1 S.2.1 dM_fetch_221 (by decide) ?_
  refine lv_icmp_lt (tgt := 239) S.1 S.2.1 dM_fetch_223 (by decide) (fun g1 => ?_) (fun g1 => ?_)
  · refine lv_iconst (v := 5) S.1 S.2.1 dM_fetch_239 (by decide) ?_
    exact rt_i S hr hk hK hP hD hS ((by simp [mu3, hma, an_an, g1])) dM_fetch_240
  · refine lv_aload_n S.1 S.2.1 dM_fetch_226 rfl (lv_at hl 0 rfl) ?_
    refine g_M_M_ma S hK hP dM_fetch_227 ?_
    refine lv_bipush (v := 15) S.1 S.2.1 dM_fetch_230 (by decide) ?_
    refine lv_icmp_gt (tgt := 239) S.1 S.2.1 dM_fetch_232 (by decide) (fun g2 => ?_) (fun g2 => ?_)
    · refine lv_iconst (v := 5) S.1 S.2.1 dM_fetch_239 (by decide) ?_
      exact rt_i S hr hk hK hP hD hS ((by simp [mu3, hma, an_an, g1, g2])) dM_fetch_240
    · refine lv_iconst (v := 4) S.1 S.2.1 dM_fetch_235 (by decide) ?_
      refine lv_goto (tgt := 240) S.1 S.2.1 dM_fetch_236 (by decide) ?_
      exact rt_i S hr hk hK hP hD hS ((by simp [mu3, hma, an_an, g1, g2])) dM_fetch_240

set_option maxHeartbeats 4000000 in
set_option maxRecDepth 100000 in
theorem c_M_fetch_4 (l : Launch) (D : va_G) (a : AR) (sz : Nat) (pc ac lk mq ma mb ir sw io dl ha rd md kf kb cn pf : Int32) (co ou : Nat → Int32) (I : Iv a.2.2.2.2.2 (pc, ac, lk, mq, ma, mb, ir, sw, io, dl, ha, rd, 4, md, kf, kb, cn, pf, co, ou)) : MI l D (wr a) (tr a) sz yM_fetch cM_fetch 1 (some .int) 1 [.ref a.1] (pc, ac, lk, mq, ma, mb, ir, sw, io, dl, ha, rd, 4, md, kf, kb, cn, pf, co, ou) (fun r u => (r, u) = mu4 (pc, ac, lk, mq, ma, mb, ir, sw, io, dl, ha, rd, 4, md, kf, kb, cn, pf, co, ou)) := by
  refine en_i RM rfl (by decide) (Nat.le_of_ble_eq_true rfl) ?_
  intro p e s m below meth c A ls S hr hk hA hN hK hP hD hS hl
  have hl : lv_has ls 1 [(0, .ref a.1)] := hl
  obtain ⟨⟨hpc, hac, hmq, hma, hmb, hir, hsw⟩, hlk, ⟨hio, hdl, hha, hrd, hkf, hpf⟩, hsn, hlt, hkb, hcn, hn, hco⟩ := I
  refine lv_aload_n S.1 S.2.1 dM_fetch_0 rfl (lv_at hl 0 rfl) ?_
  refine g_M_M_at S hK hP dM_fetch_1 ?_
  refine lv_tableIn (off := 237) (tgt := 241) S.1 S.2.1 dM_fetch_4 (by decide +kernel) (by decide +kernel) (by decide +kernel) (by decide) ?_
  refine lv_aload_n S.1 S.2.1 dM_fetch_241 rfl (lv_at hl 0 rfl) ?_
  refine lv_aload_n S.1 S.2.1 dM_fetch_242 rfl (lv_at hl 0 rfl) ?_
  refine g_M_M_mb S hK hP dM_fetch_243 ?_
  refine lv_iconst (v := 1) S.1 S.2.1 dM_fetch_246 (by decide) ?_
  refine lv_iadd S.1 S.2.1 dM_fetch_247 ?_
  refine lv_sipush (v := 4095) S.1 S.2.1 dM_fetch_248 (by decide) ?_
  refine lv_iand S.1 S.2.1 dM_fetch_251 ?_
  refine p_M_M_mb S hK hP hD hS dM_fetch_252 (fun H locs hP hD hS => ?_)
  refine lv_aload_n S.1 S.2.1 dM_fetch_255 rfl (lv_at hl 0 rfl) ?_
  refine g_M_M_core S hK hP dM_fetch_256 ?_
  refine lv_aload_n S.1 S.2.1 dM_fetch_259 rfl (lv_at hl 0 rfl) ?_
  refine g_M_M_ma S hK hP dM_fetch_260 ?_
  refine lv_aload_n S.1 S.2.1 dM_fetch_263 rfl (lv_at hl 0 rfl) ?_
  refine g_M_M_mb S hK hP dM_fetch_264 ?_
  refine st_rco S hK hP hD hS (in_w hma) dM_fetch_267 (fun H locs hP hD hS => ?_)
  refine lv_iconst (v := 5) S.1 S.2.1 dM_fetch_268 (by decide) ?_
  exact rt_i S hr hk hK hP hD hS ((by simp [mu4, hma, an_an])) dM_fetch_269

set_option maxHeartbeats 4000000 in
set_option maxRecDepth 100000 in
theorem c_M_fetch_5 (l : Launch) (D : va_G) (a : AR) (sz : Nat) (pc ac lk mq ma mb ir sw io dl ha rd md kf kb cn pf : Int32) (co ou : Nat → Int32) (I : Iv a.2.2.2.2.2 (pc, ac, lk, mq, ma, mb, ir, sw, io, dl, ha, rd, 5, md, kf, kb, cn, pf, co, ou)) : MI l D (wr a) (tr a) sz yM_fetch cM_fetch 1 (some .int) 1 [.ref a.1] (pc, ac, lk, mq, ma, mb, ir, sw, io, dl, ha, rd, 5, md, kf, kb, cn, pf, co, ou) (fun r u => (r, u) = mu5 (pc, ac, lk, mq, ma, mb, ir, sw, io, dl, ha, rd, 5, md, kf, kb, cn, pf, co, ou)) := by
  refine en_i RM rfl (by decide) (Nat.le_of_ble_eq_true rfl) ?_
  intro p e s m below meth c A ls S hr hk hA hN hK hP hD hS hl
  have hl : lv_has ls 1 [(0, .ref a.1)] := hl
  obtain ⟨⟨hpc, hac, hmq, hma, hmb, hir, hsw⟩, hlk, ⟨hio, hdl, hha, hrd, hkf, hpf⟩, hsn, hlt, hkb, hcn, hn, hco⟩ := I
  refine lv_aload_n S.1 S.2.1 dM_fetch_0 rfl (lv_at hl 0 rfl) ?_
  refine g_M_M_at S hK hP dM_fetch_1 ?_
  refine lv_tableOut (tgt := 270) S.1 S.2.1 dM_fetch_4 (by decide +kernel) (by decide) ?_
  refine lv_aload_n S.1 S.2.1 dM_fetch_270 rfl (lv_at hl 0 rfl) ?_
  refine lv_aload_n S.1 S.2.1 dM_fetch_271 rfl (lv_at hl 0 rfl) ?_
  refine g_M_M_mb S hK hP dM_fetch_272 ?_
  refine p_M_M_ma S hK hP hD hS dM_fetch_275 (fun H locs hP hD hS => ?_)
  refine lv_bipush (v := 8) S.1 S.2.1 dM_fetch_278 (by decide) ?_
  refine lv_aload_n S.1 S.2.1 dM_fetch_280 rfl (lv_at hl 0 rfl) ?_
  refine g_M_M_ir S hK hP dM_fetch_281 ?_
  refine lv_sipush (v := 512) S.1 S.2.1 dM_fetch_284 (by decide) ?_
  refine lv_idiv S.1 S.2.1 dM_fetch_287 (by decide) ?_
  refine lv_iadd S.1 S.2.1 dM_fetch_288 ?_
  exact rt_i S hr hk hK hP hD hS ((by simp [mu5, hma, an_an])) dM_fetch_289
