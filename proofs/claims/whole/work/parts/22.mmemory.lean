set_option maxHeartbeats 4000000 in
set_option maxRecDepth 100000 in
theorem c_M_memory_8 (l : Launch) (D : va_G) (a : AR) (sz : Nat) (pc ac lk mq ma mb ir sw io dl ha rd md kf kb cn pf : Int32) (co ou : Nat → Int32) (I : Iv a.2.2.2.2.2 (pc, ac, lk, mq, ma, mb, ir, sw, io, dl, ha, rd, 8, md, kf, kb, cn, pf, co, ou)) : MI l D (wr a) (tr a) sz yM_memory cM_memory 1 (some .int) 1 [.ref a.1] (pc, ac, lk, mq, ma, mb, ir, sw, io, dl, ha, rd, 8, md, kf, kb, cn, pf, co, ou) (fun r u => (r, u) = mu8 (pc, ac, lk, mq, ma, mb, ir, sw, io, dl, ha, rd, 8, md, kf, kb, cn, pf, co, ou)) := by
  refine en_i RM rfl (by decide) (Nat.le_of_ble_eq_true rfl) ?_
  intro p e s m below meth c A ls S hr hk hA hN hK hP hD hS hl
  have hl : lv_has ls 1 [(0, .ref a.1)] := hl
  obtain ⟨⟨hpc, hac, hmq, hma, hmb, hir, hsw⟩, hlk, ⟨hio, hdl, hha, hrd, hkf, hpf⟩, hsn, hlt, hkb, hcn, hn, hco⟩ := I
  refine lv_aload_n S.1 S.2.1 dM_memory_0 rfl (lv_at hl 0 rfl) ?_
  refine g_M_M_at S hK hP dM_memory_1 ?_
  refine lv_tableIn (off := 56) (tgt := 60) S.1 S.2.1 dM_memory_4 (by decide +kernel) (by decide +kernel) (by decide +kernel) (by decide) ?_
  refine lv_aload_n S.1 S.2.1 dM_memory_60 rfl (lv_at hl 0 rfl) ?_
  refine lv_aload_n S.1 S.2.1 dM_memory_61 rfl (lv_at hl 0 rfl) ?_
  refine g_M_M_core S hK hP dM_memory_62 ?_
  refine lv_aload_n S.1 S.2.1 dM_memory_65 rfl (lv_at hl 0 rfl) ?_
  refine g_M_M_ma S hK hP dM_memory_66 ?_
  refine ld_rco S hK hP (in_w hma) dM_memory_69 ?_
  refine p_M_M_mb S hK hP hD hS dM_memory_70 (fun H locs hP hD hS => ?_)
  refine lv_aload_n S.1 S.2.1 dM_memory_73 rfl (lv_at hl 0 rfl) ?_
  refine g_M_M_at S hK hP dM_memory_74 ?_
  refine lv_bipush (v := 8) S.1 S.2.1 dM_memory_77 (by decide) ?_
  refine lv_iadd S.1 S.2.1 dM_memory_79 ?_
  exact rt_i S hr hk hK hP hD hS ((by simp [mu8, hma, hmb])) dM_memory_80

set_option maxHeartbeats 4000000 in
set_option maxRecDepth 100000 in
theorem c_M_memory_9 (l : Launch) (D : va_G) (a : AR) (sz : Nat) (pc ac lk mq ma mb ir sw io dl ha rd md kf kb cn pf : Int32) (co ou : Nat → Int32) (I : Iv a.2.2.2.2.2 (pc, ac, lk, mq, ma, mb, ir, sw, io, dl, ha, rd, 9, md, kf, kb, cn, pf, co, ou)) : MI l D (wr a) (tr a) sz yM_memory cM_memory 1 (some .int) 1 [.ref a.1] (pc, ac, lk, mq, ma, mb, ir, sw, io, dl, ha, rd, 9, md, kf, kb, cn, pf, co, ou) (fun r u => (r, u) = mu9 (pc, ac, lk, mq, ma, mb, ir, sw, io, dl, ha, rd, 9, md, kf, kb, cn, pf, co, ou)) := by
  refine en_i RM rfl (by decide) (Nat.le_of_ble_eq_true rfl) ?_
  intro p e s m below meth c A ls S hr hk hA hN hK hP hD hS hl
  have hl : lv_has ls 1 [(0, .ref a.1)] := hl
  obtain ⟨⟨hpc, hac, hmq, hma, hmb, hir, hsw⟩, hlk, ⟨hio, hdl, hha, hrd, hkf, hpf⟩, hsn, hlt, hkb, hcn, hn, hco⟩ := I
  refine lv_aload_n S.1 S.2.1 dM_memory_0 rfl (lv_at hl 0 rfl) ?_
  refine g_M_M_at S hK hP dM_memory_1 ?_
  refine lv_tableIn (off := 56) (tgt := 60) S.1 S.2.1 dM_memory_4 (by decide +kernel) (by decide +kernel) (by decide +kernel) (by decide) ?_
  refine lv_aload_n S.1 S.2.1 dM_memory_60 rfl (lv_at hl 0 rfl) ?_
  refine lv_aload_n S.1 S.2.1 dM_memory_61 rfl (lv_at hl 0 rfl) ?_
  refine g_M_M_core S hK hP dM_memory_62 ?_
  refine lv_aload_n S.1 S.2.1 dM_memory_65 rfl (lv_at hl 0 rfl) ?_
  refine g_M_M_ma S hK hP dM_memory_66 ?_
  refine ld_rco S hK hP (in_w hma) dM_memory_69 ?_
  refine p_M_M_mb S hK hP hD hS dM_memory_70 (fun H locs hP hD hS => ?_)
  refine lv_aload_n S.1 S.2.1 dM_memory_73 rfl (lv_at hl 0 rfl) ?_
  refine g_M_M_at S hK hP dM_memory_74 ?_
  refine lv_bipush (v := 8) S.1 S.2.1 dM_memory_77 (by decide) ?_
  refine lv_iadd S.1 S.2.1 dM_memory_79 ?_
  exact rt_i S hr hk hK hP hD hS ((by simp [mu9, hma, hmb])) dM_memory_80

set_option maxHeartbeats 4000000 in
set_option maxRecDepth 100000 in
theorem c_M_memory_10 (l : Launch) (D : va_G) (a : AR) (sz : Nat) (pc ac lk mq ma mb ir sw io dl ha rd md kf kb cn pf : Int32) (co ou : Nat → Int32) (I : Iv a.2.2.2.2.2 (pc, ac, lk, mq, ma, mb, ir, sw, io, dl, ha, rd, 10, md, kf, kb, cn, pf, co, ou)) : MI l D (wr a) (tr a) sz yM_memory cM_memory 1 (some .int) 1 [.ref a.1] (pc, ac, lk, mq, ma, mb, ir, sw, io, dl, ha, rd, 10, md, kf, kb, cn, pf, co, ou) (fun r u => (r, u) = mu10 (pc, ac, lk, mq, ma, mb, ir, sw, io, dl, ha, rd, 10, md, kf, kb, cn, pf, co, ou)) := by
  refine en_i RM rfl (by decide) (Nat.le_of_ble_eq_true rfl) ?_
  intro p e s m below meth c A ls S hr hk hA hN hK hP hD hS hl
  have hl : lv_has ls 1 [(0, .ref a.1)] := hl
  obtain ⟨⟨hpc, hac, hmq, hma, hmb, hir, hsw⟩, hlk, ⟨hio, hdl, hha, hrd, hkf, hpf⟩, hsn, hlt, hkb, hcn, hn, hco⟩ := I
  refine lv_aload_n S.1 S.2.1 dM_memory_0 rfl (lv_at hl 0 rfl) ?_
  refine g_M_M_at S hK hP dM_memory_1 ?_
  refine lv_tableIn (off := 77) (tgt := 81) S.1 S.2.1 dM_memory_4 (by decide +kernel) (by decide +kernel) (by decide +kernel) (by decide) ?_
  refine lv_aload_n S.1 S.2.1 dM_memory_81 rfl (lv_at hl 0 rfl) ?_
  refine lv_aload_n S.1 S.2.1 dM_memory_82 rfl (lv_at hl 0 rfl) ?_
  refine g_M_M_core S hK hP dM_memory_83 ?_
  refine lv_aload_n S.1 S.2.1 dM_memory_86 rfl (lv_at hl 0 rfl) ?_
  refine g_M_M_ma S hK hP dM_memory_87 ?_
  refine ld_rco S hK hP (in_w hma) dM_memory_90 ?_
  refine lv_iconst (v := 1) S.1 S.2.1 dM_memory_91 (by decide) ?_
  refine lv_iadd S.1 S.2.1 dM_memory_92 ?_
  refine lv_sipush (v := 4095) S.1 S.2.1 dM_memory_93 (by decide) ?_
  refine lv_iand S.1 S.2.1 dM_memory_96 ?_
  refine p_M_M_mb S hK hP hD hS dM_memory_97 (fun H locs hP hD hS => ?_)
  refine lv_bipush (v := 18) S.1 S.2.1 dM_memory_100 (by decide) ?_
  exact rt_i S hr hk hK hP hD hS ((by simp [mu10, hma, hmb])) dM_memory_102

set_option maxHeartbeats 4000000 in
set_option maxRecDepth 100000 in
theorem c_M_memory_11 (l : Launch) (D : va_G) (a : AR) (sz : Nat) (pc ac lk mq ma mb ir sw io dl ha rd md kf kb cn pf : Int32) (co ou : Nat → Int32) (I : Iv a.2.2.2.2.2 (pc, ac, lk, mq, ma, mb, ir, sw, io, dl, ha, rd, 11, md, kf, kb, cn, pf, co, ou)) : MI l D (wr a) (tr a) sz yM_memory cM_memory 1 (some .int) 1 [.ref a.1] (pc, ac, lk, mq, ma, mb, ir, sw, io, dl, ha, rd, 11, md, kf, kb, cn, pf, co, ou) (fun r u => (r, u) = mu11 (pc, ac, lk, mq, ma, mb, ir, sw, io, dl, ha, rd, 11, md, kf, kb, cn, pf, co, ou)) := by
  refine en_i RM rfl (by decide) (Nat.le_of_ble_eq_true rfl) ?_
  intro p e s m below meth c A ls S hr hk hA hN hK hP hD hS hl
  have hl : lv_has ls 1 [(0, .ref a.1)] := hl
  obtain ⟨⟨hpc, hac, hmq, hma, hmb, hir, hsw⟩, hlk, ⟨hio, hdl, hha, hrd, hkf, hpf⟩, hsn, hlt, hkb, hcn, hn, hco⟩ := I
  refine lv_aload_n S.1 S.2.1 dM_memory_0 rfl (lv_at hl 0 rfl) ?_
  refine g_M_M_at S hK hP dM_memory_1 ?_
  refine lv_tableIn (off := 99) (tgt := 103) S.1 S.2.1 dM_memory_4 (by decide +kernel) (by decide +kernel) (by decide +kernel) (by decide) ?_
  refine lv_aload_n S.1 S.2.1 dM_memory_103 rfl (lv_at hl 0 rfl) ?_
  refine lv_aload_n S.1 S.2.1 dM_memory_104 rfl (lv_at hl 0 rfl) ?_
  refine g_M_M_ac S hK hP dM_memory_105 ?_
  refine p_M_M_mb S hK hP hD hS dM_memory_108 (fun H locs hP hD hS => ?_)
  refine lv_bipush (v := 19) S.1 S.2.1 dM_memory_111 (by decide) ?_
  exact rt_i S hr hk hK hP hD hS ((by simp [mu11, hma, hmb])) dM_memory_113

set_option maxHeartbeats 4000000 in
set_option maxRecDepth 100000 in
theorem c_M_memory_12 (l : Launch) (D : va_G) (a : AR) (sz : Nat) (pc ac lk mq ma mb ir sw io dl ha rd md kf kb cn pf : Int32) (co ou : Nat → Int32) (I : Iv a.2.2.2.2.2 (pc, ac, lk, mq, ma, mb, ir, sw, io, dl, ha, rd, 12, md, kf, kb, cn, pf, co, ou)) : MI l D (wr a) (tr a) sz yM_memory cM_memory 1 (some .int) 1 [.ref a.1] (pc, ac, lk, mq, ma, mb, ir, sw, io, dl, ha, rd, 12, md, kf, kb, cn, pf, co, ou) (fun r u => (r, u) = mu12 (pc, ac, lk, mq, ma, mb, ir, sw, io, dl, ha, rd, 12, md, kf, kb, cn, pf, co, ou)) := by
  refine en_i RM rfl (by decide) (Nat.le_of_ble_eq_true rfl) ?_
  intro p e s m below meth c A ls S hr hk hA hN hK hP hD hS hl
  have hl : lv_has ls 1 [(0, .ref a.1)] := hl
  obtain ⟨⟨hpc, hac, hmq, hma, hmb, hir, hsw⟩, hlk, ⟨hio, hdl, hha, hrd, hkf, hpf⟩, hsn, hlt, hkb, hcn, hn, hco⟩ := I
  refine lv_aload_n S.1 S.2.1 dM_memory_0 rfl (lv_at hl 0 rfl) ?_
  refine g_M_M_at S hK hP dM_memory_1 ?_
  refine lv_tableIn (off := 110) (tgt := 114) S.1 S.2.1 dM_memory_4 (by decide +kernel) (by decide +kernel) (by decide +kernel) (by decide) ?_
  refine lv_aload_n S.1 S.2.1 dM_memory_114 rfl (lv_at hl 0 rfl) ?_
  refine lv_aload_n S.1 S.2.1 dM_memory_115 rfl (lv_at hl 0 rfl) ?_
  refine g_M_M_pc S hK hP dM_memory_116 ?_
  refine p_M_M_mb S hK hP hD hS dM_memory_119 (fun H locs hP hD hS => ?_)
  refine lv_bipush (v := 15) S.1 S.2.1 dM_memory_122 (by decide) ?_
  exact rt_i S hr hk hK hP hD hS ((by simp [mu12, hma, hmb])) dM_memory_124

set_option maxHeartbeats 4000000 in
set_option maxRecDepth 100000 in
theorem c_M_memory_13 (l : Launch) (D : va_G) (a : AR) (sz : Nat) (pc ac lk mq ma mb ir sw io dl ha rd md kf kb cn pf : Int32) (co ou : Nat → Int32) (I : Iv a.2.2.2.2.2 (pc, ac, lk, mq, ma, mb, ir, sw, io, dl, ha, rd, 13, md, kf, kb, cn, pf, co, ou)) : MI l D (wr a) (tr a) sz yM_memory cM_memory 1 (some .int) 1 [.ref a.1] (pc, ac, lk, mq, ma, mb, ir, sw, io, dl, ha, rd, 13, md, kf, kb, cn, pf, co, ou) (fun r u => (r, u) = mu13 (pc, ac, lk, mq, ma, mb, ir, sw, io, dl, ha, rd, 13, md, kf, kb, cn, pf, co, ou)) := by
  refine en_i RM rfl (by decide) (Nat.le_of_ble_eq_true rfl) ?_
  intro p e s m below meth c A ls S hr hk hA hN hK hP hD hS hl
  have hl : lv_has ls 1 [(0, .ref a.1)] := hl
  obtain ⟨⟨hpc, hac, hmq, hma, hmb, hir, hsw⟩, hlk, ⟨hio, hdl, hha, hrd, hkf, hpf⟩, hsn, hlt, hkb, hcn, hn, hco⟩ := I
  refine lv_aload_n S.1 S.2.1 dM_memory_0 rfl (lv_at hl 0 rfl) ?_
  refine g_M_M_at S hK hP dM_memory_1 ?_
  refine lv_tableIn (off := 121) (tgt := 125) S.1 S.2.1 dM_memory_4 (by decide +kernel) (by decide +kernel) (by decide +kernel) (by decide) ?_
  refine lv_aload_n S.1 S.2.1 dM_memory_125 rfl (lv_at hl 0 rfl) ?_
  refine lv_aload_n S.1 S.2.1 dM_memory_126 rfl (lv_at hl 0 rfl) ?_
  refine g_M_M_ma S hK hP dM_memory_127 ?_
  refine p_M_M_pc S hK hP hD hS dM_memory_130 (fun H locs hP hD hS => ?_)
  refine lv_iconst (v := 0) S.1 S.2.1 dM_memory_133 (by decide) ?_
  exact rt_i S hr hk hK hP hD hS ((by simp [mu13, hma, hmb])) dM_memory_134

set_option maxHeartbeats 4000000 in
set_option maxRecDepth 100000 in
theorem c_M_memory_15 (l : Launch) (D : va_G) (a : AR) (sz : Nat) (pc ac lk mq ma mb ir sw io dl ha rd md kf kb cn pf : Int32) (co ou : Nat → Int32) (I : Iv a.2.2.2.2.2 (pc, ac, lk, mq, ma, mb, ir, sw, io, dl, ha, rd, 15, md, kf, kb, cn, pf, co, ou)) : MI l D (wr a) (tr a) sz yM_memory cM_memory 1 (some .int) 1 [.ref a.1] (pc, ac, lk, mq, ma, mb, ir, sw, io, dl, ha, rd, 15, md, kf, kb, cn, pf, co, ou) (fun r u => (r, u) = mu15 (pc, ac, lk, mq, ma, mb, ir, sw, io, dl, ha, rd, 15, md, kf, kb, cn, pf, co, ou)) := by
  refine en_i RM rfl (by decide) (Nat.le_of_ble_eq_true rfl) ?_
  intro p e s m below meth c A ls S hr hk hA hN hK hP hD hS hl
  have hl : lv_has ls 1 [(0, .ref a.1)] := hl
  obtain ⟨⟨hpc, hac, hmq, hma, hmb, hir, hsw⟩, hlk, ⟨hio, hdl, hha, hrd, hkf, hpf⟩, hsn, hlt, hkb, hcn, hn, hco⟩ := I
  refine lv_aload_n S.1 S.2.1 dM_memory_0 rfl (lv_at hl 0 rfl) ?_
  refine g_M_M_at S hK hP dM_memory_1 ?_
  refine lv_tableIn (off := 156) (tgt := 160) S.1 S.2.1 dM_memory_4 (by decide +kernel) (by decide +kernel) (by decide +kernel) (by decide) ?_
  refine lv_aload_n S.1 S.2.1 dM_memory_160 rfl (lv_at hl 0 rfl) ?_
  refine g_M_M_core S hK hP dM_memory_161 ?_
  refine lv_aload_n S.1 S.2.1 dM_memory_164 rfl (lv_at hl 0 rfl) ?_
  refine g_M_M_ma S hK hP dM_memory_165 ?_
  refine lv_aload_n S.1 S.2.1 dM_memory_168 rfl (lv_at hl 0 rfl) ?_
  refine g_M_M_mb S hK hP dM_memory_169 ?_
  refine st_rco S hK hP hD hS (in_w hma) dM_memory_172 (fun H locs hP hD hS => ?_)
  refine lv_aload_n S.1 S.2.1 dM_memory_173 rfl (lv_at hl 0 rfl) ?_
  refine lv_aload_n S.1 S.2.1 dM_memory_174 rfl (lv_at hl 0 rfl) ?_
  refine g_M_M_at S hK hP dM_memory_175 ?_
  refine lv_bipush (v := 18) S.1 S.2.1 dM_memory_178 (by decide) ?_
  refine lv_icmp_ne (tgt := 194) S.1 S.2.1 dM_memory_180 (by decide) (fun _ => ?_) (fun g1 => absurd g1 (by decide))
  refine lv_iconst (v := 0) S.1 S.2.1 dM_memory_194 (by decide) ?_
  refine cl_v (As := [.int 0]) (rest := []) S hN hK hP hD hS hA hl.1 (c_M_skip l D a _ pc ac lk mq ma mb ir sw io dl ha rd 15 md kf kb cn pf (upd co ma.toNatClampNeg mb) ou 0) k_M_79 (rc_M hK hP) ⟨by decide, by decide⟩ rfl rfl (Nat.le_of_ble_eq_true rfl) ⟨Nat.le_refl _, Nat.le_refl _⟩ dM_memory_195 (fun u H locs hw hP hD hS => ?_)
  obtain ⟨g2, rfl⟩ | ⟨g3, rfl⟩ := hw
  · refine lv_aload_n S.1 S.2.1 dM_memory_198 rfl (lv_at hl 0 rfl) ?_
    refine lv_aload_n S.1 S.2.1 dM_memory_199 rfl (lv_at hl 0 rfl) ?_
    refine g_M_M_at S hK hP dM_memory_200 ?_
    refine lv_bipush (v := 19) S.1 S.2.1 dM_memory_203 (by decide) ?_
    refine lv_icmp_ne (tgt := 212) S.1 S.2.1 dM_memory_205 (by decide) (fun _ => ?_) (fun g4 => absurd g4 (by decide))
    refine lv_aload_n S.1 S.2.1 dM_memory_212 rfl (lv_at hl 0 rfl) ?_
    refine g_M_M_ac S hK hP dM_memory_213 ?_
    refine p_M_M_ac S hK hP hD hS dM_memory_216 (fun H locs hP hD hS => ?_)
    refine lv_aload_n S.1 S.2.1 dM_memory_219 rfl (lv_at hl 0 rfl) ?_
    refine lv_aload_n S.1 S.2.1 dM_memory_220 rfl (lv_at hl 0 rfl) ?_
    refine g_M_M_at S hK hP dM_memory_221 ?_
    refine lv_bipush (v := 15) S.1 S.2.1 dM_memory_224 (by decide) ?_
    refine lv_icmp_ne (tgt := 242) S.1 S.2.1 dM_memory_226 (by decide) (fun g5 => absurd (by decide) g5) (fun _ => ?_)
    refine lv_aload_n S.1 S.2.1 dM_memory_229 rfl (lv_at hl 0 rfl) ?_
    refine g_M_M_ma S hK hP dM_memory_230 ?_
    refine lv_iconst (v := 1) S.1 S.2.1 dM_memory_233 (by decide) ?_
    refine lv_iadd S.1 S.2.1 dM_memory_234 ?_
    refine lv_sipush (v := 4095) S.1 S.2.1 dM_memory_235 (by decide) ?_
    refine lv_iand S.1 S.2.1 dM_memory_238 ?_
    refine lv_goto (tgt := 246) S.1 S.2.1 dM_memory_239 (by decide) ?_
    refine p_M_M_pc S hK hP hD hS dM_memory_246 (fun H locs hP hD hS => ?_)
    refine lv_iconst (v := 0) S.1 S.2.1 dM_memory_249 (by decide) ?_
    exact rt_i S hr hk hK hP hD hS ((by simp [mu15, hma, hmb, g2])) dM_memory_250
  · exact absurd g3 (by decide)

set_option maxHeartbeats 4000000 in
set_option maxRecDepth 100000 in
theorem c_M_memory_16 (l : Launch) (D : va_G) (a : AR) (sz : Nat) (pc ac lk mq ma mb ir sw io dl ha rd md kf kb cn pf : Int32) (co ou : Nat → Int32) (I : Iv a.2.2.2.2.2 (pc, ac, lk, mq, ma, mb, ir, sw, io, dl, ha, rd, 16, md, kf, kb, cn, pf, co, ou)) : MI l D (wr a) (tr a) sz yM_memory cM_memory 1 (some .int) 1 [.ref a.1] (pc, ac, lk, mq, ma, mb, ir, sw, io, dl, ha, rd, 16, md, kf, kb, cn, pf, co, ou) (fun r u => (r, u) = mu16 (pc, ac, lk, mq, ma, mb, ir, sw, io, dl, ha, rd, 16, md, kf, kb, cn, pf, co, ou)) := by
  refine en_i RM rfl (by decide) (Nat.le_of_ble_eq_true rfl) ?_
  intro p e s m below meth c A ls S hr hk hA hN hK hP hD hS hl
  have hl : lv_has ls 1 [(0, .ref a.1)] := hl
  obtain ⟨⟨hpc, hac, hmq, hma, hmb, hir, hsw⟩, hlk, ⟨hio, hdl, hha, hrd, hkf, hpf⟩, hsn, hlt, hkb, hcn, hn, hco⟩ := I
  refine lv_aload_n S.1 S.2.1 dM_memory_0 rfl (lv_at hl 0 rfl) ?_
  refine g_M_M_at S hK hP dM_memory_1 ?_
  refine lv_tableIn (off := 131) (tgt := 135) S.1 S.2.1 dM_memory_4 (by decide +kernel) (by decide +kernel) (by decide +kernel) (by decide) ?_
  refine lv_aload_n S.1 S.2.1 dM_memory_135 rfl (lv_at hl 0 rfl) ?_
  refine lv_aload_n S.1 S.2.1 dM_memory_136 rfl (lv_at hl 0 rfl) ?_
  refine g_M_M_ac S hK hP dM_memory_137 ?_
  refine lv_aload_n S.1 S.2.1 dM_memory_140 rfl (lv_at hl 0 rfl) ?_
  refine g_M_M_mb S hK hP dM_memory_141 ?_
  refine lv_iand S.1 S.2.1 dM_memory_144 ?_
  refine p_M_M_ac S hK hP hD hS dM_memory_145 (fun H locs hP hD hS => ?_)
  refine lv_iconst (v := 0) S.1 S.2.1 dM_memory_148 (by decide) ?_
  exact rt_i S hr hk hK hP hD hS ((by simp [mu16, hma, hmb])) dM_memory_149

set_option maxHeartbeats 4000000 in
set_option maxRecDepth 100000 in
theorem c_M_memory_17 (l : Launch) (D : va_G) (a : AR) (sz : Nat) (pc ac lk mq ma mb ir sw io dl ha rd md kf kb cn pf : Int32) (co ou : Nat → Int32) (I : Iv a.2.2.2.2.2 (pc, ac, lk, mq, ma, mb, ir, sw, io, dl, ha, rd, 17, md, kf, kb, cn, pf, co, ou)) : MI l D (wr a) (tr a) sz yM_memory cM_memory 1 (some .int) 1 [.ref a.1] (pc, ac, lk, mq, ma, mb, ir, sw, io, dl, ha, rd, 17, md, kf, kb, cn, pf, co, ou) (fun r u => (r, u) = mu17 (pc, ac, lk, mq, ma, mb, ir, sw, io, dl, ha, rd, 17, md, kf, kb, cn, pf, co, ou)) := by
  refine en_i RM rfl (by decide) (Nat.le_of_ble_eq_true rfl) ?_
  intro p e s m below meth c A ls S hr hk hA hN hK hP hD hS hl
  have hl : lv_has ls 1 [(0, .ref a.1)] := hl
  obtain ⟨⟨hpc, hac, hmq, hma, hmb, hir, hsw⟩, hlk, ⟨hio, hdl, hha, hrd, hkf, hpf⟩, hsn, hlt, hkb, hcn, hn, hco⟩ := I
  refine lv_aload_n S.1 S.2.1 dM_memory_0 rfl (lv_at hl 0 rfl) ?_
  refine g_M_M_at S hK hP dM_memory_1 ?_
  refine lv_tableIn (off := 146) (tgt := 150) S.1 S.2.1 dM_memory_4 (by decide +kernel) (by decide +kernel) (by decide +kernel) (by decide) ?_
  refine lv_aload_n S.1 S.2.1 dM_memory_150 rfl (lv_at hl 0 rfl) ?_
  refine lv_aload_n S.1 S.2.1 dM_memory_151 rfl (lv_at hl 0 rfl) ?_
  refine g_M_M_mb S hK hP dM_memory_152 ?_
  refine cl_v (As := [.int mb]) (rest := []) S hN hK hP hD hS hA hl.1 (c_M_add l D a _ pc ac lk mq ma mb ir sw io dl ha rd 17 md kf kb cn pf co ou mb) k_M_86 (rc_M hK hP) ⟨by decide, by decide⟩ rfl rfl (Nat.le_of_ble_eq_true rfl) ⟨Nat.le_refl _, Nat.le_refl _⟩ dM_memory_155 (fun u H locs hw hP hD hS => ?_)
  obtain ⟨g1, rfl⟩ | ⟨g2, rfl⟩ := hw
  · refine lv_iconst (v := 0) S.1 S.2.1 dM_memory_158 (by decide) ?_
    exact rt_i S hr hk hK hP hD hS ((by simp [mu17, hma, hmb, g1])) dM_memory_159
  · refine lv_iconst (v := 0) S.1 S.2.1 dM_memory_158 (by decide) ?_
    exact rt_i S hr hk hK hP hD hS ((by simp [mu17, hma, hmb, g2])) dM_memory_159

set_option maxHeartbeats 4000000 in
set_option maxRecDepth 100000 in
theorem c_M_memory_18 (l : Launch) (D : va_G) (a : AR) (sz : Nat) (pc ac lk mq ma mb ir sw io dl ha rd md kf kb cn pf : Int32) (co ou : Nat → Int32) (I : Iv a.2.2.2.2.2 (pc, ac, lk, mq, ma, mb, ir, sw, io, dl, ha, rd, 18, md, kf, kb, cn, pf, co, ou)) : MI l D (wr a) (tr a) sz yM_memory cM_memory 1 (some .int) 1 [.ref a.1] (pc, ac, lk, mq, ma, mb, ir, sw, io, dl, ha, rd, 18, md, kf, kb, cn, pf, co, ou) (fun r u => (r, u) = mu18 (pc, ac, lk, mq, ma, mb, ir, sw, io, dl, ha, rd, 18, md, kf, kb, cn, pf, co, ou)) := by
  refine en_i RM rfl (by decide) (Nat.le_of_ble_eq_true rfl) ?_
  intro p e s m below meth c A ls S hr hk hA hN hK hP hD hS hl
  have hl : lv_has ls 1 [(0, .ref a.1)] := hl
  obtain ⟨⟨hpc, hac, hmq, hma, hmb, hir, hsw⟩, hlk, ⟨hio, hdl, hha, hrd, hkf, hpf⟩, hsn, hlt, hkb, hcn, hn, hco⟩ := I
  refine lv_aload_n S.1 S.2.1 dM_memory_0 rfl (lv_at hl 0 rfl) ?_
  refine g_M_M_at S hK hP dM_memory_1 ?_
  refine lv_tableOut (tgt := 160) S.1 S.2.1 dM_memory_4 (by decide +kernel) (by decide) ?_
  refine lv_aload_n S.1 S.2.1 dM_memory_160 rfl (lv_at hl 0 rfl) ?_
  refine g_M_M_core S hK hP dM_memory_161 ?_
  refine lv_aload_n S.1 S.2.1 dM_memory_164 rfl (lv_at hl 0 rfl) ?_
  refine g_M_M_ma S hK hP dM_memory_165 ?_
  refine lv_aload_n S.1 S.2.1 dM_memory_168 rfl (lv_at hl 0 rfl) ?_
  refine g_M_M_mb S hK hP dM_memory_169 ?_
  refine st_rco S hK hP hD hS (in_w hma) dM_memory_172 (fun H locs hP hD hS => ?_)
  refine lv_aload_n S.1 S.2.1 dM_memory_173 rfl (lv_at hl 0 rfl) ?_
  refine lv_aload_n S.1 S.2.1 dM_memory_174 rfl (lv_at hl 0 rfl) ?_
  refine g_M_M_at S hK hP dM_memory_175 ?_
  refine lv_bipush (v := 18) S.1 S.2.1 dM_memory_178 (by decide) ?_
  refine lv_icmp_ne (tgt := 194) S.1 S.2.1 dM_memory_180 (by decide) (fun g1 => absurd (by decide) g1) (fun _ => ?_)
  refine lv_aload_n S.1 S.2.1 dM_memory_183 rfl (lv_at hl 0 rfl) ?_
  refine g_M_M_mb S hK hP dM_memory_184 ?_
  refine lv_if_ne (tgt := 194) S.1 S.2.1 dM_memory_187 (by decide) (fun g2 => ?_) (fun g2 => ?_)
  · refine lv_iconst (v := 0) S.1 S.2.1 dM_memory_194 (by decide) ?_
    refine cl_v (As := [.int 0]) (rest := []) S hN hK hP hD hS hA hl.1 (c_M_skip l D a _ pc ac lk mq ma mb ir sw io dl ha rd 18 md kf kb cn pf (upd co ma.toNatClampNeg mb) ou 0) k_M_79 (rc_M hK hP) ⟨by decide, by decide⟩ rfl rfl (Nat.le_of_ble_eq_true rfl) ⟨Nat.le_refl _, Nat.le_refl _⟩ dM_memory_195 (fun u H locs hw hP hD hS => ?_)
    obtain ⟨g3, rfl⟩ | ⟨g4, rfl⟩ := hw
    · refine lv_aload_n S.1 S.2.1 dM_memory_198 rfl (lv_at hl 0 rfl) ?_
      refine lv_aload_n S.1 S.2.1 dM_memory_199 rfl (lv_at hl 0 rfl) ?_
      refine g_M_M_at S hK hP dM_memory_200 ?_
      refine lv_bipush (v := 19) S.1 S.2.1 dM_memory_203 (by decide) ?_
      refine lv_icmp_ne (tgt := 212) S.1 S.2.1 dM_memory_205 (by decide) (fun _ => ?_) (fun g5 => absurd g5 (by decide))
      refine lv_aload_n S.1 S.2.1 dM_memory_212 rfl (lv_at hl 0 rfl) ?_
      refine g_M_M_ac S hK hP dM_memory_213 ?_
      refine p_M_M_ac S hK hP hD hS dM_memory_216 (fun H locs hP hD hS => ?_)
      refine lv_aload_n S.1 S.2.1 dM_memory_219 rfl (lv_at hl 0 rfl) ?_
      refine lv_aload_n S.1 S.2.1 dM_memory_220 rfl (lv_at hl 0 rfl) ?_
      refine g_M_M_at S hK hP dM_memory_221 ?_
      refine lv_bipush (v := 15) S.1 S.2.1 dM_memory_224 (by decide) ?_
      refine lv_icmp_ne (tgt := 242) S.1 S.2.1 dM_memory_226 (by decide) (fun _ => ?_) (fun g6 => absurd g6 (by decide))
      refine lv_aload_n S.1 S.2.1 dM_memory_242 rfl (lv_at hl 0 rfl) ?_
      refine g_M_M_pc S hK hP dM_memory_243 ?_
      refine p_M_M_pc S hK hP hD hS dM_memory_246 (fun H locs hP hD hS => ?_)
      refine lv_iconst (v := 0) S.1 S.2.1 dM_memory_249 (by decide) ?_
      exact rt_i S hr hk hK hP hD hS ((by simp [mu18, hma, hmb, g2, g3])) dM_memory_250
    · exact absurd g4 (by decide)
  · refine lv_iconst (v := 1) S.1 S.2.1 dM_memory_190 (by decide) ?_
    refine lv_goto (tgt := 195) S.1 S.2.1 dM_memory_191 (by decide) ?_
    refine cl_v (As := [.int 1]) (rest := []) S hN hK hP hD hS hA hl.1 (c_M_skip l D a _ pc ac lk mq ma mb ir sw io dl ha rd 18 md kf kb cn pf (upd co ma.toNatClampNeg mb) ou 1) k_M_79 (rc_M hK hP) ⟨by decide, by decide⟩ rfl rfl (Nat.le_of_ble_eq_true rfl) ⟨Nat.le_refl _, Nat.le_refl _⟩ dM_memory_195 (fun u H locs hw hP hD hS => ?_)
    obtain ⟨g7, rfl⟩ | ⟨g8, rfl⟩ := hw
    · exact absurd g7 (by decide)
    · refine lv_aload_n S.1 S.2.1 dM_memory_198 rfl (lv_at hl 0 rfl) ?_
      refine lv_aload_n S.1 S.2.1 dM_memory_199 rfl (lv_at hl 0 rfl) ?_
      refine g_M_M_at S hK hP dM_memory_200 ?_
      refine lv_bipush (v := 19) S.1 S.2.1 dM_memory_203 (by decide) ?_
      refine lv_icmp_ne (tgt := 212) S.1 S.2.1 dM_memory_205 (by decide) (fun _ => ?_) (fun g9 => absurd g9 (by decide))
      refine lv_aload_n S.1 S.2.1 dM_memory_212 rfl (lv_at hl 0 rfl) ?_
      refine g_M_M_ac S hK hP dM_memory_213 ?_
      refine p_M_M_ac S hK hP hD hS dM_memory_216 (fun H locs hP hD hS => ?_)
      refine lv_aload_n S.1 S.2.1 dM_memory_219 rfl (lv_at hl 0 rfl) ?_
      refine lv_aload_n S.1 S.2.1 dM_memory_220 rfl (lv_at hl 0 rfl) ?_
      refine g_M_M_at S hK hP dM_memory_221 ?_
      refine lv_bipush (v := 15) S.1 S.2.1 dM_memory_224 (by decide) ?_
      refine lv_icmp_ne (tgt := 242) S.1 S.2.1 dM_memory_226 (by decide) (fun _ => ?_) (fun g10 => absurd g10 (by decide))
      refine lv_aload_n S.1 S.2.1 dM_memory_242 rfl (lv_at hl 0 rfl) ?_
      refine g_M_M_pc S hK hP dM_memory_243 ?_
      refine p_M_M_pc S hK hP hD hS dM_memory_246 (fun H locs hP hD hS => ?_)
      refine lv_iconst (v := 0) S.1 S.2.1 dM_memory_249 (by decide) ?_
      exact rt_i S hr hk hK hP hD hS ((by simp [mu18, hma, hmb, g2, g8])) dM_memory_250

set_option maxHeartbeats 4000000 in
set_option maxRecDepth 100000 in
theorem c_M_memory_19 (l : Launch) (D : va_G) (a : AR) (sz : Nat) (pc ac lk mq ma mb ir sw io dl ha rd md kf kb cn pf : Int32) (co ou : Nat → Int32) (I : Iv a.2.2.2.2.2 (pc, ac, lk, mq, ma, mb, ir, sw, io, dl, ha, rd, 19, md, kf, kb, cn, pf, co, ou)) : MI l D (wr a) (tr a) sz yM_memory cM_memory 1 (some .int) 1 [.ref a.1] (pc, ac, lk, mq, ma, mb, ir, sw, io, dl, ha, rd, 19, md, kf, kb, cn, pf, co, ou) (fun r u => (r, u) = mu19 (pc, ac, lk, mq, ma, mb, ir, sw, io, dl, ha, rd, 19, md, kf, kb, cn, pf, co, ou)) := by
  refine en_i RM rfl (by decide) (Nat.le_of_ble_eq_true rfl) ?_
  intro p e s m below meth c A ls S hr hk hA hN hK hP hD hS hl
  have hl : lv_has ls 1 [(0, .ref a.1)] := hl
  obtain ⟨⟨hpc, hac, hmq, hma, hmb, hir, hsw⟩, hlk, ⟨hio, hdl, hha, hrd, hkf, hpf⟩, hsn, hlt, hkb, hcn, hn, hco⟩ := I
  refine lv_aload_n S.1 S.2.1 dM_memory_0 rfl (lv_at hl 0 rfl) ?_
  refine g_M_M_at S hK hP dM_memory_1 ?_
  refine lv_tableOut (tgt := 160) S.1 S.2.1 dM_memory_4 (by decide +kernel) (by decide) ?_
  refine lv_aload_n S.1 S.2.1 dM_memory_160 rfl (lv_at hl 0 rfl) ?_
  refine g_M_M_core S hK hP dM_memory_161 ?_
  refine lv_aload_n S.1 S.2.1 dM_memory_164 rfl (lv_at hl 0 rfl) ?_
  refine g_M_M_ma S hK hP dM_memory_165 ?_
  refine lv_aload_n S.1 S.2.1 dM_memory_168 rfl (lv_at hl 0 rfl) ?_
  refine g_M_M_mb S hK hP dM_memory_169 ?_
  refine st_rco S hK hP hD hS (in_w hma) dM_memory_172 (fun H locs hP hD hS => ?_)
  refine lv_aload_n S.1 S.2.1 dM_memory_173 rfl (lv_at hl 0 rfl) ?_
  refine lv_aload_n S.1 S.2.1 dM_memory_174 rfl (lv_at hl 0 rfl) ?_
  refine g_M_M_at S hK hP dM_memory_175 ?_
  refine lv_bipush (v := 18) S.1 S.2.1 dM_memory_178 (by decide) ?_
  refine lv_icmp_ne (tgt := 194) S.1 S.2.1 dM_memory_180 (by decide) (fun _ => ?_) (fun g1 => absurd g1 (by decide))
  refine lv_iconst (v := 0) S.1 S.2.1 dM_memory_194 (by decide) ?_
  refine cl_v (As := [.int 0]) (rest := []) S hN hK hP hD hS hA hl.1 (c_M_skip l D a _ pc ac lk mq ma mb ir sw io dl ha rd 19 md kf kb cn pf (upd co ma.toNatClampNeg mb) ou 0) k_M_79 (rc_M hK hP) ⟨by decide, by decide⟩ rfl rfl (Nat.le_of_ble_eq_true rfl) ⟨Nat.le_refl _, Nat.le_refl _⟩ dM_memory_195 (fun u H locs hw hP hD hS => ?_)
  obtain ⟨g2, rfl⟩ | ⟨g3, rfl⟩ := hw
  · refine lv_aload_n S.1 S.2.1 dM_memory_198 rfl (lv_at hl 0 rfl) ?_
    refine lv_aload_n S.1 S.2.1 dM_memory_199 rfl (lv_at hl 0 rfl) ?_
    refine g_M_M_at S hK hP dM_memory_200 ?_
    refine lv_bipush (v := 19) S.1 S.2.1 dM_memory_203 (by decide) ?_
    refine lv_icmp_ne (tgt := 212) S.1 S.2.1 dM_memory_205 (by decide) (fun g4 => absurd (by decide) g4) (fun _ => ?_)
    refine lv_iconst (v := 0) S.1 S.2.1 dM_memory_208 (by decide) ?_
    refine lv_goto (tgt := 216) S.1 S.2.1 dM_memory_209 (by decide) ?_
    refine p_M_M_ac S hK hP hD hS dM_memory_216 (fun H locs hP hD hS => ?_)
    refine lv_aload_n S.1 S.2.1 dM_memory_219 rfl (lv_at hl 0 rfl) ?_
    refine lv_aload_n S.1 S.2.1 dM_memory_220 rfl (lv_at hl 0 rfl) ?_
    refine g_M_M_at S hK hP dM_memory_221 ?_
    refine lv_bipush (v := 15) S.1 S.2.1 dM_memory_224 (by decide) ?_
    refine lv_icmp_ne (tgt := 242) S.1 S.2.1 dM_memory_226 (by decide) (fun _ => ?_) (fun g5 => absurd g5 (by decide))
    refine lv_aload_n S.1 S.2.1 dM_memory_242 rfl (lv_at hl 0 rfl) ?_
    refine g_M_M_pc S hK hP dM_memory_243 ?_
    refine p_M_M_pc S hK hP hD hS dM_memory_246 (fun H locs hP hD hS => ?_)
    refine lv_iconst (v := 0) S.1 S.2.1 dM_memory_249 (by decide) ?_
    exact rt_i S hr hk hK hP hD hS ((by simp [mu19, hma, hmb, g2])) dM_memory_250
  · exact absurd g3 (by decide)
