set_option maxHeartbeats 4000000 in
set_option maxRecDepth 100000 in
theorem c_M_fetch (l : Launch) (D : va_G) (a : AR) (sz : Nat) (pc ac lk mq ma mb ir sw io dl ha rd sn md kf kb cn pf : Int32) (co ou : Nat → Int32) (I : Iv a.2.2.2.2.2 (pc, ac, lk, mq, ma, mb, ir, sw, io, dl, ha, rd, sn, md, kf, kb, cn, pf, co, ou)) (g1 : ¬ 8 ≤ sn) : MI l D (wr a) (tr a) sz yM_fetch cM_fetch 1 (some .int) 1 [.ref a.1] (pc, ac, lk, mq, ma, mb, ir, sw, io, dl, ha, rd, sn, md, kf, kb, cn, pf, co, ou) (fun r u => (r, u) = mu sn (pc, ac, lk, mq, ma, mb, ir, sw, io, dl, ha, rd, sn, md, kf, kb, cn, pf, co, ou)) := by
  have hsn := I.2.2.2.1
  unfold Sn at hsn
  rcases hsn with rfl | rfl | rfl | rfl | rfl | rfl | rfl | rfl | rfl | rfl | rfl | rfl | rfl | rfl | rfl | rfl | rfl | rfl | rfl | rfl | rfl | rfl | rfl | rfl | rfl | rfl | rfl | rfl | rfl | rfl | rfl | rfl | rfl | rfl | rfl | rfl
  · exact c_M_fetch_0 l D a sz pc ac lk mq ma mb ir sw io dl ha rd md kf kb cn pf co ou I
  · exact c_M_fetch_1 l D a sz pc ac lk mq ma mb ir sw io dl ha rd md kf kb cn pf co ou I
  · exact c_M_fetch_2 l D a sz pc ac lk mq ma mb ir sw io dl ha rd md kf kb cn pf co ou I
  · exact c_M_fetch_3 l D a sz pc ac lk mq ma mb ir sw io dl ha rd md kf kb cn pf co ou I
  · exact c_M_fetch_4 l D a sz pc ac lk mq ma mb ir sw io dl ha rd md kf kb cn pf co ou I
  · exact c_M_fetch_5 l D a sz pc ac lk mq ma mb ir sw io dl ha rd md kf kb cn pf co ou I
  · exact absurd (by decide) g1
  · exact absurd (by decide) g1
  · exact absurd (by decide) g1
  · exact absurd (by decide) g1
  · exact absurd (by decide) g1
  · exact absurd (by decide) g1
  · exact absurd (by decide) g1
  · exact absurd (by decide) g1
  · exact absurd (by decide) g1
  · exact absurd (by decide) g1
  · exact absurd (by decide) g1
  · exact absurd (by decide) g1
  · exact absurd (by decide) g1
  · exact absurd (by decide) g1
  · exact absurd (by decide) g1
  · exact absurd (by decide) g1
  · exact absurd (by decide) g1
  · exact absurd (by decide) g1
  · exact absurd (by decide) g1
  · exact absurd (by decide) g1
  · exact absurd (by decide) g1
  · exact absurd (by decide) g1
  · exact absurd (by decide) g1
  · exact absurd (by decide) g1
  · exact absurd (by decide) g1
  · exact absurd (by decide) g1
  · exact absurd (by decide) g1
  · exact absurd (by decide) g1
  · exact absurd (by decide) g1
  · exact absurd (by decide) g1

set_option maxHeartbeats 4000000 in
set_option maxRecDepth 100000 in
theorem c_M_memory (l : Launch) (D : va_G) (a : AR) (sz : Nat) (pc ac lk mq ma mb ir sw io dl ha rd sn md kf kb cn pf : Int32) (co ou : Nat → Int32) (I : Iv a.2.2.2.2.2 (pc, ac, lk, mq, ma, mb, ir, sw, io, dl, ha, rd, sn, md, kf, kb, cn, pf, co, ou)) (g1 : 8 ≤ sn) (g2 : ¬ 20 ≤ sn) : MI l D (wr a) (tr a) sz yM_memory cM_memory 1 (some .int) 1 [.ref a.1] (pc, ac, lk, mq, ma, mb, ir, sw, io, dl, ha, rd, sn, md, kf, kb, cn, pf, co, ou) (fun r u => (r, u) = mu sn (pc, ac, lk, mq, ma, mb, ir, sw, io, dl, ha, rd, sn, md, kf, kb, cn, pf, co, ou)) := by
  have hsn := I.2.2.2.1
  unfold Sn at hsn
  rcases hsn with rfl | rfl | rfl | rfl | rfl | rfl | rfl | rfl | rfl | rfl | rfl | rfl | rfl | rfl | rfl | rfl | rfl | rfl | rfl | rfl | rfl | rfl | rfl | rfl | rfl | rfl | rfl | rfl | rfl | rfl | rfl | rfl | rfl | rfl | rfl | rfl
  · exact absurd g1 (by decide)
  · exact absurd g1 (by decide)
  · exact absurd g1 (by decide)
  · exact absurd g1 (by decide)
  · exact absurd g1 (by decide)
  · exact absurd g1 (by decide)
  · exact c_M_memory_8 l D a sz pc ac lk mq ma mb ir sw io dl ha rd md kf kb cn pf co ou I
  · exact c_M_memory_9 l D a sz pc ac lk mq ma mb ir sw io dl ha rd md kf kb cn pf co ou I
  · exact c_M_memory_10 l D a sz pc ac lk mq ma mb ir sw io dl ha rd md kf kb cn pf co ou I
  · exact c_M_memory_11 l D a sz pc ac lk mq ma mb ir sw io dl ha rd md kf kb cn pf co ou I
  · exact c_M_memory_12 l D a sz pc ac lk mq ma mb ir sw io dl ha rd md kf kb cn pf co ou I
  · exact c_M_memory_13 l D a sz pc ac lk mq ma mb ir sw io dl ha rd md kf kb cn pf co ou I
  · exact c_M_memory_15 l D a sz pc ac lk mq ma mb ir sw io dl ha rd md kf kb cn pf co ou I
  · exact c_M_memory_16 l D a sz pc ac lk mq ma mb ir sw io dl ha rd md kf kb cn pf co ou I
  · exact c_M_memory_17 l D a sz pc ac lk mq ma mb ir sw io dl ha rd md kf kb cn pf co ou I
  · exact c_M_memory_18 l D a sz pc ac lk mq ma mb ir sw io dl ha rd md kf kb cn pf co ou I
  · exact c_M_memory_19 l D a sz pc ac lk mq ma mb ir sw io dl ha rd md kf kb cn pf co ou I
  · exact absurd (by decide) g2
  · exact absurd (by decide) g2
  · exact absurd (by decide) g2
  · exact absurd (by decide) g2
  · exact absurd (by decide) g2
  · exact absurd (by decide) g2
  · exact absurd (by decide) g2
  · exact absurd (by decide) g2
  · exact absurd (by decide) g2
  · exact absurd (by decide) g2
  · exact absurd (by decide) g2
  · exact absurd (by decide) g2
  · exact absurd (by decide) g2
  · exact absurd (by decide) g2
  · exact absurd (by decide) g2
  · exact absurd (by decide) g2
  · exact absurd (by decide) g2
  · exact absurd (by decide) g2
  · exact absurd (by decide) g2

set_option maxHeartbeats 4000000 in
set_option maxRecDepth 100000 in
theorem c_M_operate (l : Launch) (D : va_G) (a : AR) (sz : Nat) (pc ac lk mq ma mb ir sw io dl ha rd sn md kf kb cn pf : Int32) (co ou : Nat → Int32) (I : Iv a.2.2.2.2.2 (pc, ac, lk, mq, ma, mb, ir, sw, io, dl, ha, rd, sn, md, kf, kb, cn, pf, co, ou)) (g1 : 20 ≤ sn) (g2 : ¬ 26 ≤ sn) : MI l D (wr a) (tr a) sz yM_operate cM_operate 1 (some .int) 2 [.ref a.1] (pc, ac, lk, mq, ma, mb, ir, sw, io, dl, ha, rd, sn, md, kf, kb, cn, pf, co, ou) (fun r u => (r, u) = mu sn (pc, ac, lk, mq, ma, mb, ir, sw, io, dl, ha, rd, sn, md, kf, kb, cn, pf, co, ou)) := by
  have hsn := I.2.2.2.1
  unfold Sn at hsn
  rcases hsn with rfl | rfl | rfl | rfl | rfl | rfl | rfl | rfl | rfl | rfl | rfl | rfl | rfl | rfl | rfl | rfl | rfl | rfl | rfl | rfl | rfl | rfl | rfl | rfl | rfl | rfl | rfl | rfl | rfl | rfl | rfl | rfl | rfl | rfl | rfl | rfl
  · exact absurd g1 (by decide)
  · exact absurd g1 (by decide)
  · exact absurd g1 (by decide)
  · exact absurd g1 (by decide)
  · exact absurd g1 (by decide)
  · exact absurd g1 (by decide)
  · exact absurd g1 (by decide)
  · exact absurd g1 (by decide)
  · exact absurd g1 (by decide)
  · exact absurd g1 (by decide)
  · exact absurd g1 (by decide)
  · exact absurd g1 (by decide)
  · exact absurd g1 (by decide)
  · exact absurd g1 (by decide)
  · exact absurd g1 (by decide)
  · exact absurd g1 (by decide)
  · exact absurd g1 (by decide)
  · exact c_M_operate_20 l D a sz pc ac lk mq ma mb ir sw io dl ha rd md kf kb cn pf co ou I
  · exact c_M_operate_21 l D a sz pc ac lk mq ma mb ir sw io dl ha rd md kf kb cn pf co ou I
  · exact c_M_operate_22 l D a sz pc ac lk mq ma mb ir sw io dl ha rd md kf kb cn pf co ou I
  · exact c_M_operate_23 l D a sz pc ac lk mq ma mb ir sw io dl ha rd md kf kb cn pf co ou I
  · exact c_M_operate_24 l D a sz pc ac lk mq ma mb ir sw io dl ha rd md kf kb cn pf co ou I
  · exact c_M_operate_25 l D a sz pc ac lk mq ma mb ir sw io dl ha rd md kf kb cn pf co ou I
  · exact absurd (by decide) g2
  · exact absurd (by decide) g2
  · exact absurd (by decide) g2
  · exact absurd (by decide) g2
  · exact absurd (by decide) g2
  · exact absurd (by decide) g2
  · exact absurd (by decide) g2
  · exact absurd (by decide) g2
  · exact absurd (by decide) g2
  · exact absurd (by decide) g2
  · exact absurd (by decide) g2
  · exact absurd (by decide) g2
  · exact absurd (by decide) g2

set_option maxHeartbeats 4000000 in
set_option maxRecDepth 100000 in
theorem c_M_test (l : Launch) (D : va_G) (a : AR) (sz : Nat) (pc ac lk mq ma mb ir sw io dl ha rd sn md kf kb cn pf : Int32) (co ou : Nat → Int32) (I : Iv a.2.2.2.2.2 (pc, ac, lk, mq, ma, mb, ir, sw, io, dl, ha, rd, sn, md, kf, kb, cn, pf, co, ou)) (g1 : 26 ≤ sn) (g2 : ¬ 32 ≤ sn) : MI l D (wr a) (tr a) sz yM_test cM_test 3 (some .int) 1 [.ref a.1] (pc, ac, lk, mq, ma, mb, ir, sw, io, dl, ha, rd, sn, md, kf, kb, cn, pf, co, ou) (fun r u => (r, u) = mu sn (pc, ac, lk, mq, ma, mb, ir, sw, io, dl, ha, rd, sn, md, kf, kb, cn, pf, co, ou)) := by
  have hsn := I.2.2.2.1
  unfold Sn at hsn
  rcases hsn with rfl | rfl | rfl | rfl | rfl | rfl | rfl | rfl | rfl | rfl | rfl | rfl | rfl | rfl | rfl | rfl | rfl | rfl | rfl | rfl | rfl | rfl | rfl | rfl | rfl | rfl | rfl | rfl | rfl | rfl | rfl | rfl | rfl | rfl | rfl | rfl
  · exact absurd g1 (by decide)
  · exact absurd g1 (by decide)
  · exact absurd g1 (by decide)
  · exact absurd g1 (by decide)
  · exact absurd g1 (by decide)
  · exact absurd g1 (by decide)
  · exact absurd g1 (by decide)
  · exact absurd g1 (by decide)
  · exact absurd g1 (by decide)
  · exact absurd g1 (by decide)
  · exact absurd g1 (by decide)
  · exact absurd g1 (by decide)
  · exact absurd g1 (by decide)
  · exact absurd g1 (by decide)
  · exact absurd g1 (by decide)
  · exact absurd g1 (by decide)
  · exact absurd g1 (by decide)
  · exact absurd g1 (by decide)
  · exact absurd g1 (by decide)
  · exact absurd g1 (by decide)
  · exact absurd g1 (by decide)
  · exact absurd g1 (by decide)
  · exact absurd g1 (by decide)
  · exact c_M_test_26 l D a sz pc ac lk mq ma mb ir sw io dl ha rd md kf kb cn pf co ou I
  · exact c_M_test_27 l D a sz pc ac lk mq ma mb ir sw io dl ha rd md kf kb cn pf co ou I
  · exact c_M_test_28 l D a sz pc ac lk mq ma mb ir sw io dl ha rd md kf kb cn pf co ou I
  · exact c_M_test_30 l D a sz pc ac lk mq ma mb ir sw io dl ha rd md kf kb cn pf co ou I
  · exact c_M_test_31 l D a sz pc ac lk mq ma mb ir sw io dl ha rd md kf kb cn pf co ou I
  · exact absurd (by decide) g2
  · exact absurd (by decide) g2
  · exact absurd (by decide) g2
  · exact absurd (by decide) g2
  · exact absurd (by decide) g2
  · exact absurd (by decide) g2
  · exact absurd (by decide) g2
  · exact absurd (by decide) g2

set_option maxHeartbeats 4000000 in
set_option maxRecDepth 100000 in
theorem c_M_device (l : Launch) (D : va_G) (a : AR) (sz : Nat) (pc ac lk mq ma mb ir sw io dl ha rd sn md kf kb cn pf : Int32) (co ou : Nat → Int32) (I : Iv a.2.2.2.2.2 (pc, ac, lk, mq, ma, mb, ir, sw, io, dl, ha, rd, sn, md, kf, kb, cn, pf, co, ou)) (g1 : 32 ≤ sn) (h37 : sn = 37 → ¬ cn = nI a.2.2.2.2.2) : MI l D (wr a) (tr a) sz yM_device cM_device 2 (some .int) 1 [.ref a.1] (pc, ac, lk, mq, ma, mb, ir, sw, io, dl, ha, rd, sn, md, kf, kb, cn, pf, co, ou) (fun r u => (r, u) = mu sn (pc, ac, lk, mq, ma, mb, ir, sw, io, dl, ha, rd, sn, md, kf, kb, cn, pf, co, ou)) := by
  have hsn := I.2.2.2.1
  unfold Sn at hsn
  rcases hsn with rfl | rfl | rfl | rfl | rfl | rfl | rfl | rfl | rfl | rfl | rfl | rfl | rfl | rfl | rfl | rfl | rfl | rfl | rfl | rfl | rfl | rfl | rfl | rfl | rfl | rfl | rfl | rfl | rfl | rfl | rfl | rfl | rfl | rfl | rfl | rfl
  · exact absurd g1 (by decide)
  · exact absurd g1 (by decide)
  · exact absurd g1 (by decide)
  · exact absurd g1 (by decide)
  · exact absurd g1 (by decide)
  · exact absurd g1 (by decide)
  · exact absurd g1 (by decide)
  · exact absurd g1 (by decide)
  · exact absurd g1 (by decide)
  · exact absurd g1 (by decide)
  · exact absurd g1 (by decide)
  · exact absurd g1 (by decide)
  · exact absurd g1 (by decide)
  · exact absurd g1 (by decide)
  · exact absurd g1 (by decide)
  · exact absurd g1 (by decide)
  · exact absurd g1 (by decide)
  · exact absurd g1 (by decide)
  · exact absurd g1 (by decide)
  · exact absurd g1 (by decide)
  · exact absurd g1 (by decide)
  · exact absurd g1 (by decide)
  · exact absurd g1 (by decide)
  · exact absurd g1 (by decide)
  · exact absurd g1 (by decide)
  · exact absurd g1 (by decide)
  · exact absurd g1 (by decide)
  · exact absurd g1 (by decide)
  · exact c_M_device_32 l D a sz pc ac lk mq ma mb ir sw io dl ha rd md kf kb cn pf co ou I
  · exact c_M_device_33 l D a sz pc ac lk mq ma mb ir sw io dl ha rd md kf kb cn pf co ou I
  · exact c_M_device_34 l D a sz pc ac lk mq ma mb ir sw io dl ha rd md kf kb cn pf co ou I
  · exact c_M_device_35 l D a sz pc ac lk mq ma mb ir sw io dl ha rd md kf kb cn pf co ou I
  · exact c_M_device_36 l D a sz pc ac lk mq ma mb ir sw io dl ha rd md kf kb cn pf co ou I
  · exact c_M_device_37 l D a sz pc ac lk mq ma mb ir sw io dl ha rd md kf kb cn pf co ou I (cn_lt I.2.2.2.2.2.2.2.1 I.2.2.2.2.2.2.1 (h37 rfl))
  · exact c_M_device_40 l D a sz pc ac lk mq ma mb ir sw io dl ha rd md kf kb cn pf co ou I
  · exact c_M_device_41 l D a sz pc ac lk mq ma mb ir sw io dl ha rd md kf kb cn pf co ou I

set_option maxHeartbeats 4000000 in
set_option maxRecDepth 100000 in
theorem c_M_microStep (l : Launch) (D : va_G) (a : AR) (sz : Nat) (pc ac lk mq ma mb ir sw io dl ha rd sn md kf kb cn pf : Int32) (co ou : Nat → Int32) (I : Iv a.2.2.2.2.2 (pc, ac, lk, mq, ma, mb, ir, sw, io, dl, ha, rd, sn, md, kf, kb, cn, pf, co, ou)) : MI l D (wr a) (tr a) sz yM_microStep cM_microStep 1 (some .int) 3 [.ref a.1] (pc, ac, lk, mq, ma, mb, ir, sw, io, dl, ha, rd, sn, md, kf, kb, cn, pf, co, ou) (fun r u => (r, u) = ms a.2.2.2.2.2 (pc, ac, lk, mq, ma, mb, ir, sw, io, dl, ha, rd, sn, md, kf, kb, cn, pf, co, ou)) := by
  refine en_i RM rfl (by decide) (Nat.le_of_ble_eq_true rfl) ?_
  intro p e s m below meth c A ls S hr hk hA hN hK hP hD hS hl
  have hl : lv_has ls 1 [(0, .ref a.1)] := hl
  obtain ⟨-, -, -, hsn, -, -, hcn, hn, -⟩ := id I
  refine lv_aload_n S.1 S.2.1 dM_microStep_0 rfl (lv_at hl 0 rfl) ?_
  refine g_M_M_ready S hK hP dM_microStep_1 ?_
  refine lv_if_ne (tgt := 9) S.1 S.2.1 dM_microStep_4 (by decide) (fun g1 => ?_) (fun g1 => ?_)
  · refine lv_aload_n S.1 S.2.1 dM_microStep_9 rfl (lv_at hl 0 rfl) ?_
    refine g_M_M_at S hK hP dM_microStep_10 ?_
    refine lv_if_ne (tgt := 25) S.1 S.2.1 dM_microStep_13 (by decide) (fun g2 => ?_) (fun g2 => ?_)
    · refine lv_aload_n S.1 S.2.1 dM_microStep_25 rfl (lv_at hl 0 rfl) ?_
      refine g_M_M_at S hK hP dM_microStep_26 ?_
      refine lv_bipush (v := 37) S.1 S.2.1 dM_microStep_29 (by decide) ?_
      refine lv_icmp_ne (tgt := 47) S.1 S.2.1 dM_microStep_31 (by decide) (fun g3 => ?_) (fun g3 => ?_)
      · refine lv_aload_n S.1 S.2.1 dM_microStep_47 rfl (lv_at hl 0 rfl) ?_
        refine lv_aload_n S.1 S.2.1 dM_microStep_48 rfl (lv_at hl 0 rfl) ?_
        refine g_M_M_at S hK hP dM_microStep_49 ?_
        refine lv_bipush (v := 8) S.1 S.2.1 dM_microStep_52 (by decide) ?_
        refine lv_icmp_ge (tgt := 64) S.1 S.2.1 dM_microStep_54 (by decide) (fun g4 => ?_) (fun g4 => ?_)
        · refine lv_aload_n S.1 S.2.1 dM_microStep_64 rfl (lv_at hl 0 rfl) ?_
          refine g_M_M_at S hK hP dM_microStep_65 ?_
          refine lv_bipush (v := 20) S.1 S.2.1 dM_microStep_68 (by decide) ?_
          refine lv_icmp_ge (tgt := 80) S.1 S.2.1 dM_microStep_70 (by decide) (fun g5 => ?_) (fun g5 => ?_)
          · refine lv_aload_n S.1 S.2.1 dM_microStep_80 rfl (lv_at hl 0 rfl) ?_
            refine g_M_M_at S hK hP dM_microStep_81 ?_
            refine lv_bipush (v := 26) S.1 S.2.1 dM_microStep_84 (by decide) ?_
            refine lv_icmp_ge (tgt := 96) S.1 S.2.1 dM_microStep_86 (by decide) (fun g6 => ?_) (fun g6 => ?_)
            · refine lv_aload_n S.1 S.2.1 dM_microStep_96 rfl (lv_at hl 0 rfl) ?_
              refine g_M_M_at S hK hP dM_microStep_97 ?_
              refine lv_bipush (v := 32) S.1 S.2.1 dM_microStep_100 (by decide) ?_
              refine lv_icmp_ge (tgt := 112) S.1 S.2.1 dM_microStep_102 (by decide) (fun g7 => ?_) (fun g7 => ?_)
              · refine lv_aload_n S.1 S.2.1 dM_microStep_112 rfl (lv_at hl 0 rfl) ?_
                refine cl_i (As := []) (rest := [.ref a.1]) S hN hK hP hD hS hA hl.1 (c_M_device l D a _ pc ac lk mq ma mb ir sw io dl ha rd sn md kf kb cn pf co ou I g7 (fun z => absurd z g3)) k_M_106 (rc_M hK hP) ⟨by decide, by decide⟩ rfl rfl (Nat.le_of_ble_eq_true rfl) ⟨Nat.le_refl _, Nat.le_refl _⟩ dM_microStep_113 (fun r u H locs hw hP hD hS => ?_)
                obtain ⟨pc1, ac1, lk1, mq1, ma1, mb1, ir1, sw1, io1, dl1, ha1, rd1, sn1, md1, kf1, kb1, cn1, pf1, co1, ou1⟩ := u
                refine p_M_M_at S hK hP hD hS dM_microStep_116 (fun H locs hP hD hS => ?_)
                refine lv_aload_n S.1 S.2.1 dM_microStep_119 rfl (lv_at hl 0 rfl) ?_
                refine lv_dup S.1 S.2.1 dM_microStep_120 rfl ?_
                refine g_M_M_made S hK hP dM_microStep_121 ?_
                refine lv_iconst (v := 1) S.1 S.2.1 dM_microStep_124 (by decide) ?_
                refine lv_iadd S.1 S.2.1 dM_microStep_125 ?_
                refine p_M_M_made S hK hP hD hS dM_microStep_126 (fun H locs hP hD hS => ?_)
                refine lv_aload_n S.1 S.2.1 dM_microStep_129 rfl (lv_at hl 0 rfl) ?_
                refine g_M_M_at S hK hP dM_microStep_130 ?_
                refine lv_if_ne (tgt := 140) S.1 S.2.1 dM_microStep_133 (by decide) (fun g8 => ?_) (fun g8 => ?_)
                · refine lv_iconst (v := 0) S.1 S.2.1 dM_microStep_140 (by decide) ?_
                  exact rt_i S hr hk hK hP hD hS ((by rw [ms_go g1 (fun z => g2 z.1) (fun z => g3 z.1), ← hw]; simp [fin_, g8])) dM_microStep_141
                · refine lv_iconst (v := 1) S.1 S.2.1 dM_microStep_136 (by decide) ?_
                  refine lv_goto (tgt := 141) S.1 S.2.1 dM_microStep_137 (by decide) ?_
                  exact rt_i S hr hk hK hP hD hS ((by rw [ms_go g1 (fun z => g2 z.1) (fun z => g3 z.1), ← hw]; simp [fin_, g8])) dM_microStep_141
              · refine lv_aload_n S.1 S.2.1 dM_microStep_105 rfl (lv_at hl 0 rfl) ?_
                refine cl_i (As := []) (rest := [.ref a.1]) S hN hK hP hD hS hA hl.1 (c_M_test l D a _ pc ac lk mq ma mb ir sw io dl ha rd sn md kf kb cn pf co ou I g6 g7) k_M_103 (rc_M hK hP) ⟨by decide, by decide⟩ rfl rfl (Nat.le_of_ble_eq_true rfl) ⟨Nat.le_refl _, Nat.le_refl _⟩ dM_microStep_106 (fun r u H locs hw hP hD hS => ?_)
                obtain ⟨pc3, ac3, lk3, mq3, ma3, mb3, ir3, sw3, io3, dl3, ha3, rd3, sn3, md3, kf3, kb3, cn3, pf3, co3, ou3⟩ := u
                refine lv_goto (tgt := 116) S.1 S.2.1 dM_microStep_109 (by decide) ?_
                refine p_M_M_at S hK hP hD hS dM_microStep_116 (fun H locs hP hD hS => ?_)
                refine lv_aload_n S.1 S.2.1 dM_microStep_119 rfl (lv_at hl 0 rfl) ?_
                refine lv_dup S.1 S.2.1 dM_microStep_120 rfl ?_
                refine g_M_M_made S hK hP dM_microStep_121 ?_
                refine lv_iconst (v := 1) S.1 S.2.1 dM_microStep_124 (by decide) ?_
                refine lv_iadd S.1 S.2.1 dM_microStep_125 ?_
                refine p_M_M_made S hK hP hD hS dM_microStep_126 (fun H locs hP hD hS => ?_)
                refine lv_aload_n S.1 S.2.1 dM_microStep_129 rfl (lv_at hl 0 rfl) ?_
                refine g_M_M_at S hK hP dM_microStep_130 ?_
                refine lv_if_ne (tgt := 140) S.1 S.2.1 dM_microStep_133 (by decide) (fun g9 => ?_) (fun g9 => ?_)
                · refine lv_iconst (v := 0) S.1 S.2.1 dM_microStep_140 (by decide) ?_
                  exact rt_i S hr hk hK hP hD hS ((by rw [ms_go g1 (fun z => g2 z.1) (fun z => g3 z.1), ← hw]; simp [fin_, g9])) dM_microStep_141
                · refine lv_iconst (v := 1) S.1 S.2.1 dM_microStep_136 (by decide) ?_
                  refine lv_goto (tgt := 141) S.1 S.2.1 dM_microStep_137 (by decide) ?_
                  exact rt_i S hr hk hK hP hD hS ((by rw [ms_go g1 (fun z => g2 z.1) (fun z => g3 z.1), ← hw]; simp [fin_, g9])) dM_microStep_141
            · refine lv_aload_n S.1 S.2.1 dM_microStep_89 rfl (lv_at hl 0 rfl) ?_
              refine cl_i (As := []) (rest := [.ref a.1]) S hN hK hP hD hS hA hl.1 (c_M_operate l D a _ pc ac lk mq ma mb ir sw io dl ha rd sn md kf kb cn pf co ou I g5 g6) k_M_100 (rc_M hK hP) ⟨by decide, by decide⟩ rfl rfl (Nat.le_of_ble_eq_true rfl) ⟨Nat.le_refl _, Nat.le_refl _⟩ dM_microStep_90 (fun r u H locs hw hP hD hS => ?_)
              obtain ⟨pc5, ac5, lk5, mq5, ma5, mb5, ir5, sw5, io5, dl5, ha5, rd5, sn5, md5, kf5, kb5, cn5, pf5, co5, ou5⟩ := u
              refine lv_goto (tgt := 116) S.1 S.2.1 dM_microStep_93 (by decide) ?_
              refine p_M_M_at S hK hP hD hS dM_microStep_116 (fun H locs hP hD hS => ?_)
              refine lv_aload_n S.1 S.2.1 dM_microStep_119 rfl (lv_at hl 0 rfl) ?_
              refine lv_dup S.1 S.2.1 dM_microStep_120 rfl ?_
              refine g_M_M_made S hK hP dM_microStep_121 ?_
              refine lv_iconst (v := 1) S.1 S.2.1 dM_microStep_124 (by decide) ?_
              refine lv_iadd S.1 S.2.1 dM_microStep_125 ?_
              refine p_M_M_made S hK hP hD hS dM_microStep_126 (fun H locs hP hD hS => ?_)
              refine lv_aload_n S.1 S.2.1 dM_microStep_129 rfl (lv_at hl 0 rfl) ?_
              refine g_M_M_at S hK hP dM_microStep_130 ?_
              refine lv_if_ne (tgt := 140) S.1 S.2.1 dM_microStep_133 (by decide) (fun g10 => ?_) (fun g10 => ?_)
              · refine lv_iconst (v := 0) S.1 S.2.1 dM_microStep_140 (by decide) ?_
                exact rt_i S hr hk hK hP hD hS ((by rw [ms_go g1 (fun z => g2 z.1) (fun z => g3 z.1), ← hw]; simp [fin_, g10])) dM_microStep_141
              · refine lv_iconst (v := 1) S.1 S.2.1 dM_microStep_136 (by decide) ?_
                refine lv_goto (tgt := 141) S.1 S.2.1 dM_microStep_137 (by decide) ?_
                exact rt_i S hr hk hK hP hD hS ((by rw [ms_go g1 (fun z => g2 z.1) (fun z => g3 z.1), ← hw]; simp [fin_, g10])) dM_microStep_141
          · refine lv_aload_n S.1 S.2.1 dM_microStep_73 rfl (lv_at hl 0 rfl) ?_
            refine cl_i (As := []) (rest := [.ref a.1]) S hN hK hP hD hS hA hl.1 (c_M_memory l D a _ pc ac lk mq ma mb ir sw io dl ha rd sn md kf kb cn pf co ou I g4 g5) k_M_97 (rc_M hK hP) ⟨by decide, by decide⟩ rfl rfl (Nat.le_of_ble_eq_true rfl) ⟨Nat.le_refl _, Nat.le_refl _⟩ dM_microStep_74 (fun r u H locs hw hP hD hS => ?_)
            obtain ⟨pc7, ac7, lk7, mq7, ma7, mb7, ir7, sw7, io7, dl7, ha7, rd7, sn7, md7, kf7, kb7, cn7, pf7, co7, ou7⟩ := u
            refine lv_goto (tgt := 116) S.1 S.2.1 dM_microStep_77 (by decide) ?_
            refine p_M_M_at S hK hP hD hS dM_microStep_116 (fun H locs hP hD hS => ?_)
            refine lv_aload_n S.1 S.2.1 dM_microStep_119 rfl (lv_at hl 0 rfl) ?_
            refine lv_dup S.1 S.2.1 dM_microStep_120 rfl ?_
            refine g_M_M_made S hK hP dM_microStep_121 ?_
            refine lv_iconst (v := 1) S.1 S.2.1 dM_microStep_124 (by decide) ?_
            refine lv_iadd S.1 S.2.1 dM_microStep_125 ?_
            refine p_M_M_made S hK hP hD hS dM_microStep_126 (fun H locs hP hD hS => ?_)
            refine lv_aload_n S.1 S.2.1 dM_microStep_129 rfl (lv_at hl 0 rfl) ?_
            refine g_M_M_at S hK hP dM_microStep_130 ?_
            refine lv_if_ne (tgt := 140) S.1 S.2.1 dM_microStep_133 (by decide) (fun g11 => ?_) (fun g11 => ?_)
            · refine lv_iconst (v := 0) S.1 S.2.1 dM_microStep_140 (by decide) ?_
              exact rt_i S hr hk hK hP hD hS ((by rw [ms_go g1 (fun z => g2 z.1) (fun z => g3 z.1), ← hw]; simp [fin_, g11])) dM_microStep_141
            · refine lv_iconst (v := 1) S.1 S.2.1 dM_microStep_136 (by decide) ?_
              refine lv_goto (tgt := 141) S.1 S.2.1 dM_microStep_137 (by decide) ?_
              exact rt_i S hr hk hK hP hD hS ((by rw [ms_go g1 (fun z => g2 z.1) (fun z => g3 z.1), ← hw]; simp [fin_, g11])) dM_microStep_141
        · refine lv_aload_n S.1 S.2.1 dM_microStep_57 rfl (lv_at hl 0 rfl) ?_
          refine cl_i (As := []) (rest := [.ref a.1]) S hN hK hP hD hS hA hl.1 (c_M_fetch l D a _ pc ac lk mq ma mb ir sw io dl ha rd sn md kf kb cn pf co ou I g4) k_M_93 (rc_M hK hP) ⟨by decide, by decide⟩ rfl rfl (Nat.le_of_ble_eq_true rfl) ⟨Nat.le_refl _, Nat.le_refl _⟩ dM_microStep_58 (fun r u H locs hw hP hD hS => ?_)
          obtain ⟨pc9, ac9, lk9, mq9, ma9, mb9, ir9, sw9, io9, dl9, ha9, rd9, sn9, md9, kf9, kb9, cn9, pf9, co9, ou9⟩ := u
          refine lv_goto (tgt := 116) S.1 S.2.1 dM_microStep_61 (by decide) ?_
          refine p_M_M_at S hK hP hD hS dM_microStep_116 (fun H locs hP hD hS => ?_)
          refine lv_aload_n S.1 S.2.1 dM_microStep_119 rfl (lv_at hl 0 rfl) ?_
          refine lv_dup S.1 S.2.1 dM_microStep_120 rfl ?_
          refine g_M_M_made S hK hP dM_microStep_121 ?_
          refine lv_iconst (v := 1) S.1 S.2.1 dM_microStep_124 (by decide) ?_
          refine lv_iadd S.1 S.2.1 dM_microStep_125 ?_
          refine p_M_M_made S hK hP hD hS dM_microStep_126 (fun H locs hP hD hS => ?_)
          refine lv_aload_n S.1 S.2.1 dM_microStep_129 rfl (lv_at hl 0 rfl) ?_
          refine g_M_M_at S hK hP dM_microStep_130 ?_
          refine lv_if_ne (tgt := 140) S.1 S.2.1 dM_microStep_133 (by decide) (fun g12 => ?_) (fun g12 => ?_)
          · refine lv_iconst (v := 0) S.1 S.2.1 dM_microStep_140 (by decide) ?_
            exact rt_i S hr hk hK hP hD hS ((by rw [ms_go g1 (fun z => g2 z.1) (fun z => g3 z.1), ← hw]; simp [fin_, g12])) dM_microStep_141
          · refine lv_iconst (v := 1) S.1 S.2.1 dM_microStep_136 (by decide) ?_
            refine lv_goto (tgt := 141) S.1 S.2.1 dM_microStep_137 (by decide) ?_
            exact rt_i S hr hk hK hP hD hS ((by rw [ms_go g1 (fun z => g2 z.1) (fun z => g3 z.1), ← hw]; simp [fin_, g12])) dM_microStep_141
      · refine lv_aload_n S.1 S.2.1 dM_microStep_34 rfl (lv_at hl 0 rfl) ?_
        refine g_M_M_printed S hK hP dM_microStep_35 ?_
        refine lv_aload_n S.1 S.2.1 dM_microStep_38 rfl (lv_at hl 0 rfl) ?_
        refine g_M_M_cap S hK hP dM_microStep_39 ?_
        refine lv_icmp_ne (tgt := 47) S.1 S.2.1 dM_microStep_42 (by decide) (fun g13 => ?_) (fun g13 => ?_)
        · refine lv_aload_n S.1 S.2.1 dM_microStep_47 rfl (lv_at hl 0 rfl) ?_
          refine lv_aload_n S.1 S.2.1 dM_microStep_48 rfl (lv_at hl 0 rfl) ?_
          refine g_M_M_at S hK hP dM_microStep_49 ?_
          refine lv_bipush (v := 8) S.1 S.2.1 dM_microStep_52 (by decide) ?_
          refine lv_icmp_ge (tgt := 64) S.1 S.2.1 dM_microStep_54 (by decide) (fun g14 => ?_) (fun g14 => ?_)
          · refine lv_aload_n S.1 S.2.1 dM_microStep_64 rfl (lv_at hl 0 rfl) ?_
            refine g_M_M_at S hK hP dM_microStep_65 ?_
            refine lv_bipush (v := 20) S.1 S.2.1 dM_microStep_68 (by decide) ?_
            refine lv_icmp_ge (tgt := 80) S.1 S.2.1 dM_microStep_70 (by decide) (fun g15 => ?_) (fun g15 => ?_)
            · refine lv_aload_n S.1 S.2.1 dM_microStep_80 rfl (lv_at hl 0 rfl) ?_
              refine g_M_M_at S hK hP dM_microStep_81 ?_
              refine lv_bipush (v := 26) S.1 S.2.1 dM_microStep_84 (by decide) ?_
              refine lv_icmp_ge (tgt := 96) S.1 S.2.1 dM_microStep_86 (by decide) (fun g16 => ?_) (fun g16 => ?_)
              · refine lv_aload_n S.1 S.2.1 dM_microStep_96 rfl (lv_at hl 0 rfl) ?_
                refine g_M_M_at S hK hP dM_microStep_97 ?_
                refine lv_bipush (v := 32) S.1 S.2.1 dM_microStep_100 (by decide) ?_
                refine lv_icmp_ge (tgt := 112) S.1 S.2.1 dM_microStep_102 (by decide) (fun g17 => ?_) (fun g17 => ?_)
                · refine lv_aload_n S.1 S.2.1 dM_microStep_112 rfl (lv_at hl 0 rfl) ?_
                  refine cl_i (As := []) (rest := [.ref a.1]) S hN hK hP hD hS hA hl.1 (c_M_device l D a _ pc ac lk mq ma mb ir sw io dl ha rd sn md kf kb cn pf co ou I g17 (fun _ => g13)) k_M_106 (rc_M hK hP) ⟨by decide, by decide⟩ rfl rfl (Nat.le_of_ble_eq_true rfl) ⟨Nat.le_refl _, Nat.le_refl _⟩ dM_microStep_113 (fun r u H locs hw hP hD hS => ?_)
                  obtain ⟨pc11, ac11, lk11, mq11, ma11, mb11, ir11, sw11, io11, dl11, ha11, rd11, sn11, md11, kf11, kb11, cn11, pf11, co11, ou11⟩ := u
                  refine p_M_M_at S hK hP hD hS dM_microStep_116 (fun H locs hP hD hS => ?_)
                  refine lv_aload_n S.1 S.2.1 dM_microStep_119 rfl (lv_at hl 0 rfl) ?_
                  refine lv_dup S.1 S.2.1 dM_microStep_120 rfl ?_
                  refine g_M_M_made S hK hP dM_microStep_121 ?_
                  refine lv_iconst (v := 1) S.1 S.2.1 dM_microStep_124 (by decide) ?_
                  refine lv_iadd S.1 S.2.1 dM_microStep_125 ?_
                  refine p_M_M_made S hK hP hD hS dM_microStep_126 (fun H locs hP hD hS => ?_)
                  refine lv_aload_n S.1 S.2.1 dM_microStep_129 rfl (lv_at hl 0 rfl) ?_
                  refine g_M_M_at S hK hP dM_microStep_130 ?_
                  refine lv_if_ne (tgt := 140) S.1 S.2.1 dM_microStep_133 (by decide) (fun g18 => ?_) (fun g18 => ?_)
                  · refine lv_iconst (v := 0) S.1 S.2.1 dM_microStep_140 (by decide) ?_
                    exact rt_i S hr hk hK hP hD hS ((by rw [ms_go g1 (fun z => g2 z.1) (fun z => z.2 (cn_lt hn hcn g13)), ← hw]; simp [fin_, g18])) dM_microStep_141
                  · refine lv_iconst (v := 1) S.1 S.2.1 dM_microStep_136 (by decide) ?_
                    refine lv_goto (tgt := 141) S.1 S.2.1 dM_microStep_137 (by decide) ?_
                    exact rt_i S hr hk hK hP hD hS ((by rw [ms_go g1 (fun z => g2 z.1) (fun z => z.2 (cn_lt hn hcn g13)), ← hw]; simp [fin_, g18])) dM_microStep_141
                · refine lv_aload_n S.1 S.2.1 dM_microStep_105 rfl (lv_at hl 0 rfl) ?_
                  refine cl_i (As := []) (rest := [.ref a.1]) S hN hK hP hD hS hA hl.1 (c_M_test l D a _ pc ac lk mq ma mb ir sw io dl ha rd sn md kf kb cn pf co ou I g16 g17) k_M_103 (rc_M hK hP) ⟨by decide, by decide⟩ rfl rfl (Nat.le_of_ble_eq_true rfl) ⟨Nat.le_refl _, Nat.le_refl _⟩ dM_microStep_106 (fun r u H locs hw hP hD hS => ?_)
                  obtain ⟨pc13, ac13, lk13, mq13, ma13, mb13, ir13, sw13, io13, dl13, ha13, rd13, sn13, md13, kf13, kb13, cn13, pf13, co13, ou13⟩ := u
                  refine lv_goto (tgt := 116) S.1 S.2.1 dM_microStep_109 (by decide) ?_
                  refine p_M_M_at S hK hP hD hS dM_microStep_116 (fun H locs hP hD hS => ?_)
                  refine lv_aload_n S.1 S.2.1 dM_microStep_119 rfl (lv_at hl 0 rfl) ?_
                  refine lv_dup S.1 S.2.1 dM_microStep_120 rfl ?_
                  refine g_M_M_made S hK hP dM_microStep_121 ?_
                  refine lv_iconst (v := 1) S.1 S.2.1 dM_microStep_124 (by decide) ?_
                  refine lv_iadd S.1 S.2.1 dM_microStep_125 ?_
                  refine p_M_M_made S hK hP hD hS dM_microStep_126 (fun H locs hP hD hS => ?_)
                  refine lv_aload_n S.1 S.2.1 dM_microStep_129 rfl (lv_at hl 0 rfl) ?_
                  refine g_M_M_at S hK hP dM_microStep_130 ?_
                  refine lv_if_ne (tgt := 140) S.1 S.2.1 dM_microStep_133 (by decide) (fun g19 => ?_) (fun g19 => ?_)
                  · refine lv_iconst (v := 0) S.1 S.2.1 dM_microStep_140 (by decide) ?_
                    exact rt_i S hr hk hK hP hD hS ((by rw [ms_go g1 (fun z => g2 z.1) (fun z => z.2 (cn_lt hn hcn g13)), ← hw]; simp [fin_, g19])) dM_microStep_141
                  · refine lv_iconst (v := 1) S.1 S.2.1 dM_microStep_136 (by decide) ?_
                    refine lv_goto (tgt := 141) S.1 S.2.1 dM_microStep_137 (by decide) ?_
                    exact rt_i S hr hk hK hP hD hS ((by rw [ms_go g1 (fun z => g2 z.1) (fun z => z.2 (cn_lt hn hcn g13)), ← hw]; simp [fin_, g19])) dM_microStep_141
              · refine lv_aload_n S.1 S.2.1 dM_microStep_89 rfl (lv_at hl 0 rfl) ?_
                refine cl_i (As := []) (rest := [.ref a.1]) S hN hK hP hD hS hA hl.1 (c_M_operate l D a _ pc ac lk mq ma mb ir sw io dl ha rd sn md kf kb cn pf co ou I g15 g16) k_M_100 (rc_M hK hP) ⟨by decide, by decide⟩ rfl rfl (Nat.le_of_ble_eq_true rfl) ⟨Nat.le_refl _, Nat.le_refl _⟩ dM_microStep_90 (fun r u H locs hw hP hD hS => ?_)
                obtain ⟨pc15, ac15, lk15, mq15, ma15, mb15, ir15, sw15, io15, dl15, ha15, rd15, sn15, md15, kf15, kb15, cn15, pf15, co15, ou15⟩ := u
                refine lv_goto (tgt := 116) S.1 S.2.1 dM_microStep_93 (by decide) ?_
                refine p_M_M_at S hK hP hD hS dM_microStep_116 (fun H locs hP hD hS => ?_)
                refine lv_aload_n S.1 S.2.1 dM_microStep_119 rfl (lv_at hl 0 rfl) ?_
                refine lv_dup S.1 S.2.1 dM_microStep_120 rfl ?_
                refine g_M_M_made S hK hP dM_microStep_121 ?_
                refine lv_iconst (v := 1) S.1 S.2.1 dM_microStep_124 (by decide) ?_
                refine lv_iadd S.1 S.2.1 dM_microStep_125 ?_
                refine p_M_M_made S hK hP hD hS dM_microStep_126 (fun H locs hP hD hS => ?_)
                refine lv_aload_n S.1 S.2.1 dM_microStep_129 rfl (lv_at hl 0 rfl) ?_
                refine g_M_M_at S hK hP dM_microStep_130 ?_
                refine lv_if_ne (tgt := 140) S.1 S.2.1 dM_microStep_133 (by decide) (fun g20 => ?_) (fun g20 => ?_)
                · refine lv_iconst (v := 0) S.1 S.2.1 dM_microStep_140 (by decide) ?_
                  exact rt_i S hr hk hK hP hD hS ((by rw [ms_go g1 (fun z => g2 z.1) (fun z => z.2 (cn_lt hn hcn g13)), ← hw]; simp [fin_, g20])) dM_microStep_141
                · refine lv_iconst (v := 1) S.1 S.2.1 dM_microStep_136 (by decide) ?_
                  refine lv_goto (tgt := 141) S.1 S.2.1 dM_microStep_137 (by decide) ?_
                  exact rt_i S hr hk hK hP hD hS ((by rw [ms_go g1 (fun z => g2 z.1) (fun z => z.2 (cn_lt hn hcn g13)), ← hw]; simp [fin_, g20])) dM_microStep_141
            · refine lv_aload_n S.1 S.2.1 dM_microStep_73 rfl (lv_at hl 0 rfl) ?_
              refine cl_i (As := []) (rest := [.ref a.1]) S hN hK hP hD hS hA hl.1 (c_M_memory l D a _ pc ac lk mq ma mb ir sw io dl ha rd sn md kf kb cn pf co ou I g14 g15) k_M_97 (rc_M hK hP) ⟨by decide, by decide⟩ rfl rfl (Nat.le_of_ble_eq_true rfl) ⟨Nat.le_refl _, Nat.le_refl _⟩ dM_microStep_74 (fun r u H locs hw hP hD hS => ?_)
              obtain ⟨pc17, ac17, lk17, mq17, ma17, mb17, ir17, sw17, io17, dl17, ha17, rd17, sn17, md17, kf17, kb17, cn17, pf17, co17, ou17⟩ := u
              refine lv_goto (tgt := 116) S.1 S.2.1 dM_microStep_77 (by decide) ?_
              refine p_M_M_at S hK hP hD hS dM_microStep_116 (fun H locs hP hD hS => ?_)
              refine lv_aload_n S.1 S.2.1 dM_microStep_119 rfl (lv_at hl 0 rfl) ?_
              refine lv_dup S.1 S.2.1 dM_microStep_120 rfl ?_
              refine g_M_M_made S hK hP dM_microStep_121 ?_
              refine lv_iconst (v := 1) S.1 S.2.1 dM_microStep_124 (by decide) ?_
              refine lv_iadd S.1 S.2.1 dM_microStep_125 ?_
              refine p_M_M_made S hK hP hD hS dM_microStep_126 (fun H locs hP hD hS => ?_)
              refine lv_aload_n S.1 S.2.1 dM_microStep_129 rfl (lv_at hl 0 rfl) ?_
              refine g_M_M_at S hK hP dM_microStep_130 ?_
              refine lv_if_ne (tgt := 140) S.1 S.2.1 dM_microStep_133 (by decide) (fun g21 => ?_) (fun g21 => ?_)
              · refine lv_iconst (v := 0) S.1 S.2.1 dM_microStep_140 (by decide) ?_
                exact rt_i S hr hk hK hP hD hS ((by rw [ms_go g1 (fun z => g2 z.1) (fun z => z.2 (cn_lt hn hcn g13)), ← hw]; simp [fin_, g21])) dM_microStep_141
              · refine lv_iconst (v := 1) S.1 S.2.1 dM_microStep_136 (by decide) ?_
                refine lv_goto (tgt := 141) S.1 S.2.1 dM_microStep_137 (by decide) ?_
                exact rt_i S hr hk hK hP hD hS ((by rw [ms_go g1 (fun z => g2 z.1) (fun z => z.2 (cn_lt hn hcn g13)), ← hw]; simp [fin_, g21])) dM_microStep_141
          · refine lv_aload_n S.1 S.2.1 dM_microStep_57 rfl (lv_at hl 0 rfl) ?_
            refine cl_i (As := []) (rest := [.ref a.1]) S hN hK hP hD hS hA hl.1 (c_M_fetch l D a _ pc ac lk mq ma mb ir sw io dl ha rd sn md kf kb cn pf co ou I g14) k_M_93 (rc_M hK hP) ⟨by decide, by decide⟩ rfl rfl (Nat.le_of_ble_eq_true rfl) ⟨Nat.le_refl _, Nat.le_refl _⟩ dM_microStep_58 (fun r u H locs hw hP hD hS => ?_)
            obtain ⟨pc19, ac19, lk19, mq19, ma19, mb19, ir19, sw19, io19, dl19, ha19, rd19, sn19, md19, kf19, kb19, cn19, pf19, co19, ou19⟩ := u
            refine lv_goto (tgt := 116) S.1 S.2.1 dM_microStep_61 (by decide) ?_
            refine p_M_M_at S hK hP hD hS dM_microStep_116 (fun H locs hP hD hS => ?_)
            refine lv_aload_n S.1 S.2.1 dM_microStep_119 rfl (lv_at hl 0 rfl) ?_
            refine lv_dup S.1 S.2.1 dM_microStep_120 rfl ?_
            refine g_M_M_made S hK hP dM_microStep_121 ?_
            refine lv_iconst (v := 1) S.1 S.2.1 dM_microStep_124 (by decide) ?_
            refine lv_iadd S.1 S.2.1 dM_microStep_125 ?_
            refine p_M_M_made S hK hP hD hS dM_microStep_126 (fun H locs hP hD hS => ?_)
            refine lv_aload_n S.1 S.2.1 dM_microStep_129 rfl (lv_at hl 0 rfl) ?_
            refine g_M_M_at S hK hP dM_microStep_130 ?_
            refine lv_if_ne (tgt := 140) S.1 S.2.1 dM_microStep_133 (by decide) (fun g22 => ?_) (fun g22 => ?_)
            · refine lv_iconst (v := 0) S.1 S.2.1 dM_microStep_140 (by decide) ?_
              exact rt_i S hr hk hK hP hD hS ((by rw [ms_go g1 (fun z => g2 z.1) (fun z => z.2 (cn_lt hn hcn g13)), ← hw]; simp [fin_, g22])) dM_microStep_141
            · refine lv_iconst (v := 1) S.1 S.2.1 dM_microStep_136 (by decide) ?_
              refine lv_goto (tgt := 141) S.1 S.2.1 dM_microStep_137 (by decide) ?_
              exact rt_i S hr hk hK hP hD hS ((by rw [ms_go g1 (fun z => g2 z.1) (fun z => z.2 (cn_lt hn hcn g13)), ← hw]; simp [fin_, g22])) dM_microStep_141
        · refine lv_iconst (v := 4) S.1 S.2.1 dM_microStep_45 (by decide) ?_
          exact rt_i S hr hk hK hP hD hS ((by rw [ms_4 (by simp [g1, g2, g3, g13]) (by simp [g1, g2, g3, g13]) ⟨g3, cn_ge g13⟩])) dM_microStep_46
    · refine lv_aload_n S.1 S.2.1 dM_microStep_16 rfl (lv_at hl 0 rfl) ?_
      refine g_M_M_halted S hK hP dM_microStep_17 ?_
      refine lv_if_eq (tgt := 25) S.1 S.2.1 dM_microStep_20 (by decide) (fun g23 => ?_) (fun g23 => ?_)
      · refine lv_aload_n S.1 S.2.1 dM_microStep_25 rfl (lv_at hl 0 rfl) ?_
        refine g_M_M_at S hK hP dM_microStep_26 ?_
        refine lv_bipush (v := 37) S.1 S.2.1 dM_microStep_29 (by decide) ?_
        refine lv_icmp_ne (tgt := 47) S.1 S.2.1 dM_microStep_31 (by decide) (fun _ => ?_) (fun g24 => absurd (g2.symm.trans g24) (by decide))
        refine lv_aload_n S.1 S.2.1 dM_microStep_47 rfl (lv_at hl 0 rfl) ?_
        refine lv_aload_n S.1 S.2.1 dM_microStep_48 rfl (lv_at hl 0 rfl) ?_
        refine g_M_M_at S hK hP dM_microStep_49 ?_
        refine lv_bipush (v := 8) S.1 S.2.1 dM_microStep_52 (by decide) ?_
        refine lv_icmp_ge (tgt := 64) S.1 S.2.1 dM_microStep_54 (by decide) (fun g25 => ?_) (fun g25 => ?_)
        · refine lv_aload_n S.1 S.2.1 dM_microStep_64 rfl (lv_at hl 0 rfl) ?_
          refine g_M_M_at S hK hP dM_microStep_65 ?_
          refine lv_bipush (v := 20) S.1 S.2.1 dM_microStep_68 (by decide) ?_
          refine lv_icmp_ge (tgt := 80) S.1 S.2.1 dM_microStep_70 (by decide) (fun g26 => ?_) (fun g26 => ?_)
          · refine lv_aload_n S.1 S.2.1 dM_microStep_80 rfl (lv_at hl 0 rfl) ?_
            refine g_M_M_at S hK hP dM_microStep_81 ?_
            refine lv_bipush (v := 26) S.1 S.2.1 dM_microStep_84 (by decide) ?_
            refine lv_icmp_ge (tgt := 96) S.1 S.2.1 dM_microStep_86 (by decide) (fun g27 => ?_) (fun g27 => ?_)
            · refine lv_aload_n S.1 S.2.1 dM_microStep_96 rfl (lv_at hl 0 rfl) ?_
              refine g_M_M_at S hK hP dM_microStep_97 ?_
              refine lv_bipush (v := 32) S.1 S.2.1 dM_microStep_100 (by decide) ?_
              refine lv_icmp_ge (tgt := 112) S.1 S.2.1 dM_microStep_102 (by decide) (fun g28 => ?_) (fun g28 => ?_)
              · refine lv_aload_n S.1 S.2.1 dM_microStep_112 rfl (lv_at hl 0 rfl) ?_
                refine cl_i (As := []) (rest := [.ref a.1]) S hN hK hP hD hS hA hl.1 (c_M_device l D a _ pc ac lk mq ma mb ir sw io dl ha rd sn md kf kb cn pf co ou I g28 (fun z => absurd (g2.symm.trans z) (by decide))) k_M_106 (rc_M hK hP) ⟨by decide, by decide⟩ rfl rfl (Nat.le_of_ble_eq_true rfl) ⟨Nat.le_refl _, Nat.le_refl _⟩ dM_microStep_113 (fun r u H locs hw hP hD hS => ?_)
                obtain ⟨pc21, ac21, lk21, mq21, ma21, mb21, ir21, sw21, io21, dl21, ha21, rd21, sn21, md21, kf21, kb21, cn21, pf21, co21, ou21⟩ := u
                refine p_M_M_at S hK hP hD hS dM_microStep_116 (fun H locs hP hD hS => ?_)
                refine lv_aload_n S.1 S.2.1 dM_microStep_119 rfl (lv_at hl 0 rfl) ?_
                refine lv_dup S.1 S.2.1 dM_microStep_120 rfl ?_
                refine g_M_M_made S hK hP dM_microStep_121 ?_
                refine lv_iconst (v := 1) S.1 S.2.1 dM_microStep_124 (by decide) ?_
                refine lv_iadd S.1 S.2.1 dM_microStep_125 ?_
                refine p_M_M_made S hK hP hD hS dM_microStep_126 (fun H locs hP hD hS => ?_)
                refine lv_aload_n S.1 S.2.1 dM_microStep_129 rfl (lv_at hl 0 rfl) ?_
                refine g_M_M_at S hK hP dM_microStep_130 ?_
                refine lv_if_ne (tgt := 140) S.1 S.2.1 dM_microStep_133 (by decide) (fun g29 => ?_) (fun g29 => ?_)
                · refine lv_iconst (v := 0) S.1 S.2.1 dM_microStep_140 (by decide) ?_
                  exact rt_i S hr hk hK hP hD hS ((by rw [ms_go g1 (fun z => z.2 g23) (fun z => absurd (g2.symm.trans z.1) (by decide)), ← hw]; simp [fin_, g29])) dM_microStep_141
                · refine lv_iconst (v := 1) S.1 S.2.1 dM_microStep_136 (by decide) ?_
                  refine lv_goto (tgt := 141) S.1 S.2.1 dM_microStep_137 (by decide) ?_
                  exact rt_i S hr hk hK hP hD hS ((by rw [ms_go g1 (fun z => z.2 g23) (fun z => absurd (g2.symm.trans z.1) (by decide)), ← hw]; simp [fin_, g29])) dM_microStep_141
              · refine lv_aload_n S.1 S.2.1 dM_microStep_105 rfl (lv_at hl 0 rfl) ?_
                refine cl_i (As := []) (rest := [.ref a.1]) S hN hK hP hD hS hA hl.1 (c_M_test l D a _ pc ac lk mq ma mb ir sw io dl ha rd sn md kf kb cn pf co ou I g27 g28) k_M_103 (rc_M hK hP) ⟨by decide, by decide⟩ rfl rfl (Nat.le_of_ble_eq_true rfl) ⟨Nat.le_refl _, Nat.le_refl _⟩ dM_microStep_106 (fun r u H locs hw hP hD hS => ?_)
                obtain ⟨pc23, ac23, lk23, mq23, ma23, mb23, ir23, sw23, io23, dl23, ha23, rd23, sn23, md23, kf23, kb23, cn23, pf23, co23, ou23⟩ := u
                refine lv_goto (tgt := 116) S.1 S.2.1 dM_microStep_109 (by decide) ?_
                refine p_M_M_at S hK hP hD hS dM_microStep_116 (fun H locs hP hD hS => ?_)
                refine lv_aload_n S.1 S.2.1 dM_microStep_119 rfl (lv_at hl 0 rfl) ?_
                refine lv_dup S.1 S.2.1 dM_microStep_120 rfl ?_
                refine g_M_M_made S hK hP dM_microStep_121 ?_
                refine lv_iconst (v := 1) S.1 S.2.1 dM_microStep_124 (by decide) ?_
                refine lv_iadd S.1 S.2.1 dM_microStep_125 ?_
                refine p_M_M_made S hK hP hD hS dM_microStep_126 (fun H locs hP hD hS => ?_)
                refine lv_aload_n S.1 S.2.1 dM_microStep_129 rfl (lv_at hl 0 rfl) ?_
                refine g_M_M_at S hK hP dM_microStep_130 ?_
                refine lv_if_ne (tgt := 140) S.1 S.2.1 dM_microStep_133 (by decide) (fun g30 => ?_) (fun g30 => ?_)
                · refine lv_iconst (v := 0) S.1 S.2.1 dM_microStep_140 (by decide) ?_
                  exact rt_i S hr hk hK hP hD hS ((by rw [ms_go g1 (fun z => z.2 g23) (fun z => absurd (g2.symm.trans z.1) (by decide)), ← hw]; simp [fin_, g30])) dM_microStep_141
                · refine lv_iconst (v := 1) S.1 S.2.1 dM_microStep_136 (by decide) ?_
                  refine lv_goto (tgt := 141) S.1 S.2.1 dM_microStep_137 (by decide) ?_
                  exact rt_i S hr hk hK hP hD hS ((by rw [ms_go g1 (fun z => z.2 g23) (fun z => absurd (g2.symm.trans z.1) (by decide)), ← hw]; simp [fin_, g30])) dM_microStep_141
            · refine lv_aload_n S.1 S.2.1 dM_microStep_89 rfl (lv_at hl 0 rfl) ?_
              refine cl_i (As := []) (rest := [.ref a.1]) S hN hK hP hD hS hA hl.1 (c_M_operate l D a _ pc ac lk mq ma mb ir sw io dl ha rd sn md kf kb cn pf co ou I g26 g27) k_M_100 (rc_M hK hP) ⟨by decide, by decide⟩ rfl rfl (Nat.le_of_ble_eq_true rfl) ⟨Nat.le_refl _, Nat.le_refl _⟩ dM_microStep_90 (fun r u H locs hw hP hD hS => ?_)
              obtain ⟨pc25, ac25, lk25, mq25, ma25, mb25, ir25, sw25, io25, dl25, ha25, rd25, sn25, md25, kf25, kb25, cn25, pf25, co25, ou25⟩ := u
              refine lv_goto (tgt := 116) S.1 S.2.1 dM_microStep_93 (by decide) ?_
              refine p_M_M_at S hK hP hD hS dM_microStep_116 (fun H locs hP hD hS => ?_)
              refine lv_aload_n S.1 S.2.1 dM_microStep_119 rfl (lv_at hl 0 rfl) ?_
              refine lv_dup S.1 S.2.1 dM_microStep_120 rfl ?_
              refine g_M_M_made S hK hP dM_microStep_121 ?_
              refine lv_iconst (v := 1) S.1 S.2.1 dM_microStep_124 (by decide) ?_
              refine lv_iadd S.1 S.2.1 dM_microStep_125 ?_
              refine p_M_M_made S hK hP hD hS dM_microStep_126 (fun H locs hP hD hS => ?_)
              refine lv_aload_n S.1 S.2.1 dM_microStep_129 rfl (lv_at hl 0 rfl) ?_
              refine g_M_M_at S hK hP dM_microStep_130 ?_
              refine lv_if_ne (tgt := 140) S.1 S.2.1 dM_microStep_133 (by decide) (fun g31 => ?_) (fun g31 => ?_)
              · refine lv_iconst (v := 0) S.1 S.2.1 dM_microStep_140 (by decide) ?_
                exact rt_i S hr hk hK hP hD hS ((by rw [ms_go g1 (fun z => z.2 g23) (fun z => absurd (g2.symm.trans z.1) (by decide)), ← hw]; simp [fin_, g31])) dM_microStep_141
              · refine lv_iconst (v := 1) S.1 S.2.1 dM_microStep_136 (by decide) ?_
                refine lv_goto (tgt := 141) S.1 S.2.1 dM_microStep_137 (by decide) ?_
                exact rt_i S hr hk hK hP hD hS ((by rw [ms_go g1 (fun z => z.2 g23) (fun z => absurd (g2.symm.trans z.1) (by decide)), ← hw]; simp [fin_, g31])) dM_microStep_141
          · refine lv_aload_n S.1 S.2.1 dM_microStep_73 rfl (lv_at hl 0 rfl) ?_
            refine cl_i (As := []) (rest := [.ref a.1]) S hN hK hP hD hS hA hl.1 (c_M_memory l D a _ pc ac lk mq ma mb ir sw io dl ha rd sn md kf kb cn pf co ou I g25 g26) k_M_97 (rc_M hK hP) ⟨by decide, by decide⟩ rfl rfl (Nat.le_of_ble_eq_true rfl) ⟨Nat.le_refl _, Nat.le_refl _⟩ dM_microStep_74 (fun r u H locs hw hP hD hS => ?_)
            obtain ⟨pc27, ac27, lk27, mq27, ma27, mb27, ir27, sw27, io27, dl27, ha27, rd27, sn27, md27, kf27, kb27, cn27, pf27, co27, ou27⟩ := u
            refine lv_goto (tgt := 116) S.1 S.2.1 dM_microStep_77 (by decide) ?_
            refine p_M_M_at S hK hP hD hS dM_microStep_116 (fun H locs hP hD hS => ?_)
            refine lv_aload_n S.1 S.2.1 dM_microStep_119 rfl (lv_at hl 0 rfl) ?_
            refine lv_dup S.1 S.2.1 dM_microStep_120 rfl ?_
            refine g_M_M_made S hK hP dM_microStep_121 ?_
            refine lv_iconst (v := 1) S.1 S.2.1 dM_microStep_124 (by decide) ?_
            refine lv_iadd S.1 S.2.1 dM_microStep_125 ?_
            refine p_M_M_made S hK hP hD hS dM_microStep_126 (fun H locs hP hD hS => ?_)
            refine lv_aload_n S.1 S.2.1 dM_microStep_129 rfl (lv_at hl 0 rfl) ?_
            refine g_M_M_at S hK hP dM_microStep_130 ?_
            refine lv_if_ne (tgt := 140) S.1 S.2.1 dM_microStep_133 (by decide) (fun g32 => ?_) (fun g32 => ?_)
            · refine lv_iconst (v := 0) S.1 S.2.1 dM_microStep_140 (by decide) ?_
              exact rt_i S hr hk hK hP hD hS ((by rw [ms_go g1 (fun z => z.2 g23) (fun z => absurd (g2.symm.trans z.1) (by decide)), ← hw]; simp [fin_, g32])) dM_microStep_141
            · refine lv_iconst (v := 1) S.1 S.2.1 dM_microStep_136 (by decide) ?_
              refine lv_goto (tgt := 141) S.1 S.2.1 dM_microStep_137 (by decide) ?_
              exact rt_i S hr hk hK hP hD hS ((by rw [ms_go g1 (fun z => z.2 g23) (fun z => absurd (g2.symm.trans z.1) (by decide)), ← hw]; simp [fin_, g32])) dM_microStep_141
        · refine lv_aload_n S.1 S.2.1 dM_microStep_57 rfl (lv_at hl 0 rfl) ?_
          refine cl_i (As := []) (rest := [.ref a.1]) S hN hK hP hD hS hA hl.1 (c_M_fetch l D a _ pc ac lk mq ma mb ir sw io dl ha rd sn md kf kb cn pf co ou I g25) k_M_93 (rc_M hK hP) ⟨by decide, by decide⟩ rfl rfl (Nat.le_of_ble_eq_true rfl) ⟨Nat.le_refl _, Nat.le_refl _⟩ dM_microStep_58 (fun r u H locs hw hP hD hS => ?_)
          obtain ⟨pc29, ac29, lk29, mq29, ma29, mb29, ir29, sw29, io29, dl29, ha29, rd29, sn29, md29, kf29, kb29, cn29, pf29, co29, ou29⟩ := u
          refine lv_goto (tgt := 116) S.1 S.2.1 dM_microStep_61 (by decide) ?_
          refine p_M_M_at S hK hP hD hS dM_microStep_116 (fun H locs hP hD hS => ?_)
          refine lv_aload_n S.1 S.2.1 dM_microStep_119 rfl (lv_at hl 0 rfl) ?_
          refine lv_dup S.1 S.2.1 dM_microStep_120 rfl ?_
          refine g_M_M_made S hK hP dM_microStep_121 ?_
          refine lv_iconst (v := 1) S.1 S.2.1 dM_microStep_124 (by decide) ?_
          refine lv_iadd S.1 S.2.1 dM_microStep_125 ?_
          refine p_M_M_made S hK hP hD hS dM_microStep_126 (fun H locs hP hD hS => ?_)
          refine lv_aload_n S.1 S.2.1 dM_microStep_129 rfl (lv_at hl 0 rfl) ?_
          refine g_M_M_at S hK hP dM_microStep_130 ?_
          refine lv_if_ne (tgt := 140) S.1 S.2.1 dM_microStep_133 (by decide) (fun g33 => ?_) (fun g33 => ?_)
          · refine lv_iconst (v := 0) S.1 S.2.1 dM_microStep_140 (by decide) ?_
            exact rt_i S hr hk hK hP hD hS ((by rw [ms_go g1 (fun z => z.2 g23) (fun z => absurd (g2.symm.trans z.1) (by decide)), ← hw]; simp [fin_, g33])) dM_microStep_141
          · refine lv_iconst (v := 1) S.1 S.2.1 dM_microStep_136 (by decide) ?_
            refine lv_goto (tgt := 141) S.1 S.2.1 dM_microStep_137 (by decide) ?_
            exact rt_i S hr hk hK hP hD hS ((by rw [ms_go g1 (fun z => z.2 g23) (fun z => absurd (g2.symm.trans z.1) (by decide)), ← hw]; simp [fin_, g33])) dM_microStep_141
      · refine lv_iconst (v := 2) S.1 S.2.1 dM_microStep_23 (by decide) ?_
        exact rt_i S hr hk hK hP hD hS ((by simp [ms, g1, g2, g23])) dM_microStep_24
  · refine lv_iconst (v := 3) S.1 S.2.1 dM_microStep_7 (by decide) ?_
    exact rt_i S hr hk hK hP hD hS ((by simp [ms, g1])) dM_microStep_8
