set_option maxHeartbeats 4000000 in
set_option maxRecDepth 100000 in
theorem c_M_test_26 (l : Launch) (D : va_G) (a : AR) (sz : Nat) (pc ac lk mq ma mb ir sw io dl ha rd md kf kb cn pf : Int32) (co ou : Nat → Int32) (I : Iv a.2.2.2.2.2 (pc, ac, lk, mq, ma, mb, ir, sw, io, dl, ha, rd, 26, md, kf, kb, cn, pf, co, ou)) : MI l D (wr a) (tr a) sz yM_test cM_test 3 (some .int) 1 [.ref a.1] (pc, ac, lk, mq, ma, mb, ir, sw, io, dl, ha, rd, 26, md, kf, kb, cn, pf, co, ou) (fun r u => (r, u) = mu26 (pc, ac, lk, mq, ma, mb, ir, sw, io, dl, ha, rd, 26, md, kf, kb, cn, pf, co, ou)) := by
  refine en_i RM rfl (by decide) (Nat.le_of_ble_eq_true rfl) ?_
  intro p e s m below meth c A ls S hr hk hA hN hK hP hD hS hl
  have hl : lv_has ls 3 [(0, .ref a.1)] := hl
  obtain ⟨⟨hpc, hac, hmq, hma, hmb, hir, hsw⟩, hlk, ⟨hio, hdl, hha, hrd, hkf, hpf⟩, hsn, hlt, hkb, hcn, hn, hco⟩ := I
  refine lv_aload_n S.1 S.2.1 dM_test_0 rfl (lv_at hl 0 rfl) ?_
  refine g_M_M_at S hK hP dM_test_1 ?_
  refine lv_tableIn (off := 36) (tgt := 40) S.1 S.2.1 dM_test_4 (by decide +kernel) (by decide +kernel) (by decide +kernel) (by decide) ?_
  refine lv_aload_n S.1 S.2.1 dM_test_40 rfl (lv_at hl 0 rfl) ?_
  refine lv_bipush (v := 64) S.1 S.2.1 dM_test_41 (by decide) ?_
  refine cl_i (As := [.int 64]) (rest := []) S hN hK hP hD hS hA hl.1 (c_M_bit l D a _ pc ac lk mq ma mb ir sw io dl ha rd 26 md kf kb cn pf co ou 64) k_M_83 (rc_M hK hP) ⟨by decide, by decide⟩ rfl rfl (Nat.le_of_ble_eq_true rfl) ⟨Nat.le_refl _, Nat.le_refl _⟩ dM_test_43 (fun r u H locs hw hP hD hS => ?_)
  obtain ⟨g1, rfl, rfl⟩ | ⟨g2, rfl, rfl⟩ := hw
  · refine lv_if_eq (tgt := 59) S.1 S.2.1 dM_test_46 (by decide) (fun _ => ?_) (fun g3 => absurd (by decide) g3)
    refine lv_aload_n S.1 S.2.1 dM_test_59 rfl (lv_at hl 0 rfl) ?_
    refine lv_bipush (v := 32) S.1 S.2.1 dM_test_60 (by decide) ?_
    refine cl_i (As := [.int 32]) (rest := []) S hN hK hP hD hS hA hl.1 (c_M_bit l D a _ pc ac lk mq ma mb ir sw io dl ha rd 26 md kf kb cn pf co ou 32) k_M_83 (rc_M hK hP) ⟨by decide, by decide⟩ rfl rfl (Nat.le_of_ble_eq_true rfl) ⟨Nat.le_refl _, Nat.le_refl _⟩ dM_test_62 (fun r u H locs hw hP hD hS => ?_)
    obtain ⟨g4, rfl, rfl⟩ | ⟨g5, rfl, rfl⟩ := hw
    · refine lv_if_eq (tgt := 75) S.1 S.2.1 dM_test_65 (by decide) (fun _ => ?_) (fun g6 => absurd (by decide) g6)
      refine lv_aload_n S.1 S.2.1 dM_test_75 rfl (lv_at hl 0 rfl) ?_
      refine lv_bipush (v := 16) S.1 S.2.1 dM_test_76 (by decide) ?_
      refine cl_i (As := [.int 16]) (rest := []) S hN hK hP hD hS hA hl.1 (c_M_bit l D a _ pc ac lk mq ma mb ir sw io dl ha rd 26 md kf kb cn pf co ou 16) k_M_83 (rc_M hK hP) ⟨by decide, by decide⟩ rfl rfl (Nat.le_of_ble_eq_true rfl) ⟨Nat.le_refl _, Nat.le_refl _⟩ dM_test_78 (fun r u H locs hw hP hD hS => ?_)
      obtain ⟨g7, rfl, rfl⟩ | ⟨g8, rfl, rfl⟩ := hw
      · refine lv_if_eq (tgt := 96) S.1 S.2.1 dM_test_81 (by decide) (fun _ => ?_) (fun g9 => absurd (by decide) g9)
        refine lv_iconst (v := 0) S.1 S.2.1 dM_test_96 (by decide) ?_
        refine lv_istore_n S.1 S.2.1 dM_test_97 rfl hl (by decide) rfl (fun ls hl => ?_)
        have hl : lv_has ls 3 [(1, .int 0), (0, .ref a.1)] := hl
        refine lv_aload_n S.1 S.2.1 dM_test_98 rfl (lv_at hl 1 rfl) ?_
        refine lv_iload_n S.1 S.2.1 dM_test_99 rfl (lv_at hl 0 rfl) ?_
        refine lv_aload_n S.1 S.2.1 dM_test_100 rfl (lv_at hl 1 rfl) ?_
        refine lv_bipush (v := 8) S.1 S.2.1 dM_test_101 (by decide) ?_
        refine cl_i (As := [.int 8]) (rest := [.int 0, .ref a.1]) S hN hK hP hD hS hA hl.1 (c_M_bit l D a _ pc ac lk mq ma mb ir sw io dl ha rd 26 md kf kb cn pf co ou 8) k_M_83 (rc_M hK hP) ⟨by decide, by decide⟩ rfl rfl (Nat.le_of_ble_eq_true rfl) ⟨Nat.le_refl _, Nat.le_refl _⟩ dM_test_103 (fun r u H locs hw hP hD hS => ?_)
        obtain ⟨g10, rfl, rfl⟩ | ⟨g11, rfl, rfl⟩ := hw
        · refine lv_icmp_eq (tgt := 113) S.1 S.2.1 dM_test_106 (by decide) (fun _ => ?_) (fun g12 => absurd (by decide) g12)
          refine lv_iconst (v := 0) S.1 S.2.1 dM_test_113 (by decide) ?_
          refine cl_v (As := [.int 0]) (rest := []) S hN hK hP hD hS hA hl.1 (c_M_skip l D a _ pc ac lk mq ma mb ir sw io dl ha rd 26 md kf kb cn pf co ou 0) k_M_79 (rc_M hK hP) ⟨by decide, by decide⟩ rfl rfl (Nat.le_of_ble_eq_true rfl) ⟨Nat.le_refl _, Nat.le_refl _⟩ dM_test_114 (fun u H locs hw hP hD hS => ?_)
          obtain ⟨g13, rfl⟩ | ⟨g14, rfl⟩ := hw
          · refine lv_bipush (v := 27) S.1 S.2.1 dM_test_117 (by decide) ?_
            exact rt_i S hr hk hK hP hD hS ((by simp [mu26, g1, g4, g7, g10, g13])) dM_test_119
          · exact absurd g14 (by decide)
        · refine lv_icmp_eq (tgt := 113) S.1 S.2.1 dM_test_106 (by decide) (fun g15 => absurd g15 (by decide)) (fun _ => ?_)
          refine lv_iconst (v := 1) S.1 S.2.1 dM_test_109 (by decide) ?_
          refine lv_goto (tgt := 114) S.1 S.2.1 dM_test_110 (by decide) ?_
          refine cl_v (As := [.int 1]) (rest := []) S hN hK hP hD hS hA hl.1 (c_M_skip l D a _ pc ac lk mq ma mb ir sw io dl ha rd 26 md kf kb cn pf co ou 1) k_M_79 (rc_M hK hP) ⟨by decide, by decide⟩ rfl rfl (Nat.le_of_ble_eq_true rfl) ⟨Nat.le_refl _, Nat.le_refl _⟩ dM_test_114 (fun u H locs hw hP hD hS => ?_)
          obtain ⟨g16, rfl⟩ | ⟨g17, rfl⟩ := hw
          · exact absurd g16 (by decide)
          · refine lv_bipush (v := 27) S.1 S.2.1 dM_test_117 (by decide) ?_
            exact rt_i S hr hk hK hP hD hS ((by simp [mu26, g1, g4, g7, g11, g17])) dM_test_119
      · refine lv_if_eq (tgt := 96) S.1 S.2.1 dM_test_81 (by decide) (fun g18 => absurd g18 (by decide)) (fun _ => ?_)
        refine lv_aload_n S.1 S.2.1 dM_test_84 rfl (lv_at hl 0 rfl) ?_
        refine g_M_M_link S hK hP dM_test_85 ?_
        refine lv_iconst (v := 1) S.1 S.2.1 dM_test_88 (by decide) ?_
        refine lv_icmp_ne (tgt := 96) S.1 S.2.1 dM_test_89 (by decide) (fun g19 => ?_) (fun g19 => ?_)
        · refine lv_iconst (v := 0) S.1 S.2.1 dM_test_96 (by decide) ?_
          refine lv_istore_n S.1 S.2.1 dM_test_97 rfl hl (by decide) rfl (fun ls hl => ?_)
          have hl : lv_has ls 3 [(1, .int 0), (0, .ref a.1)] := hl
          refine lv_aload_n S.1 S.2.1 dM_test_98 rfl (lv_at hl 1 rfl) ?_
          refine lv_iload_n S.1 S.2.1 dM_test_99 rfl (lv_at hl 0 rfl) ?_
          refine lv_aload_n S.1 S.2.1 dM_test_100 rfl (lv_at hl 1 rfl) ?_
          refine lv_bipush (v := 8) S.1 S.2.1 dM_test_101 (by decide) ?_
          refine cl_i (As := [.int 8]) (rest := [.int 0, .ref a.1]) S hN hK hP hD hS hA hl.1 (c_M_bit l D a _ pc ac lk mq ma mb ir sw io dl ha rd 26 md kf kb cn pf co ou 8) k_M_83 (rc_M hK hP) ⟨by decide, by decide⟩ rfl rfl (Nat.le_of_ble_eq_true rfl) ⟨Nat.le_refl _, Nat.le_refl _⟩ dM_test_103 (fun r u H locs hw hP hD hS => ?_)
          obtain ⟨g20, rfl, rfl⟩ | ⟨g21, rfl, rfl⟩ := hw
          · refine lv_icmp_eq (tgt := 113) S.1 S.2.1 dM_test_106 (by decide) (fun _ => ?_) (fun g22 => absurd (by decide) g22)
            refine lv_iconst (v := 0) S.1 S.2.1 dM_test_113 (by decide) ?_
            refine cl_v (As := [.int 0]) (rest := []) S hN hK hP hD hS hA hl.1 (c_M_skip l D a _ pc ac lk mq ma mb ir sw io dl ha rd 26 md kf kb cn pf co ou 0) k_M_79 (rc_M hK hP) ⟨by decide, by decide⟩ rfl rfl (Nat.le_of_ble_eq_true rfl) ⟨Nat.le_refl _, Nat.le_refl _⟩ dM_test_114 (fun u H locs hw hP hD hS => ?_)
            obtain ⟨g23, rfl⟩ | ⟨g24, rfl⟩ := hw
            · refine lv_bipush (v := 27) S.1 S.2.1 dM_test_117 (by decide) ?_
              exact rt_i S hr hk hK hP hD hS ((by simp [mu26, g1, g4, g8, g19, g20, g23])) dM_test_119
            · exact absurd g24 (by decide)
          · refine lv_icmp_eq (tgt := 113) S.1 S.2.1 dM_test_106 (by decide) (fun g25 => absurd g25 (by decide)) (fun _ => ?_)
            refine lv_iconst (v := 1) S.1 S.2.1 dM_test_109 (by decide) ?_
            refine lv_goto (tgt := 114) S.1 S.2.1 dM_test_110 (by decide) ?_
            refine cl_v (As := [.int 1]) (rest := []) S hN hK hP hD hS hA hl.1 (c_M_skip l D a _ pc ac lk mq ma mb ir sw io dl ha rd 26 md kf kb cn pf co ou 1) k_M_79 (rc_M hK hP) ⟨by decide, by decide⟩ rfl rfl (Nat.le_of_ble_eq_true rfl) ⟨Nat.le_refl _, Nat.le_refl _⟩ dM_test_114 (fun u H locs hw hP hD hS => ?_)
            obtain ⟨g26, rfl⟩ | ⟨g27, rfl⟩ := hw
            · exact absurd g26 (by decide)
            · refine lv_bipush (v := 27) S.1 S.2.1 dM_test_117 (by decide) ?_
              exact rt_i S hr hk hK hP hD hS ((by simp [mu26, g1, g4, g8, g19, g21, g27])) dM_test_119
        · refine lv_iconst (v := 1) S.1 S.2.1 dM_test_92 (by decide) ?_
          refine lv_goto (tgt := 97) S.1 S.2.1 dM_test_93 (by decide) ?_
          refine lv_istore_n S.1 S.2.1 dM_test_97 rfl hl (by decide) rfl (fun ls hl => ?_)
          have hl : lv_has ls 3 [(1, .int 1), (0, .ref a.1)] := hl
          refine lv_aload_n S.1 S.2.1 dM_test_98 rfl (lv_at hl 1 rfl) ?_
          refine lv_iload_n S.1 S.2.1 dM_test_99 rfl (lv_at hl 0 rfl) ?_
          refine lv_aload_n S.1 S.2.1 dM_test_100 rfl (lv_at hl 1 rfl) ?_
          refine lv_bipush (v := 8) S.1 S.2.1 dM_test_101 (by decide) ?_
          refine cl_i (As := [.int 8]) (rest := [.int 1, .ref a.1]) S hN hK hP hD hS hA hl.1 (c_M_bit l D a _ pc ac lk mq ma mb ir sw io dl ha rd 26 md kf kb cn pf co ou 8) k_M_83 (rc_M hK hP) ⟨by decide, by decide⟩ rfl rfl (Nat.le_of_ble_eq_true rfl) ⟨Nat.le_refl _, Nat.le_refl _⟩ dM_test_103 (fun r u H locs hw hP hD hS => ?_)
          obtain ⟨g28, rfl, rfl⟩ | ⟨g29, rfl, rfl⟩ := hw
          · refine lv_icmp_eq (tgt := 113) S.1 S.2.1 dM_test_106 (by decide) (fun g30 => absurd g30 (by decide)) (fun _ => ?_)
            refine lv_iconst (v := 1) S.1 S.2.1 dM_test_109 (by decide) ?_
            refine lv_goto (tgt := 114) S.1 S.2.1 dM_test_110 (by decide) ?_
            refine cl_v (As := [.int 1]) (rest := []) S hN hK hP hD hS hA hl.1 (c_M_skip l D a _ pc ac lk mq ma mb ir sw io dl ha rd 26 md kf kb cn pf co ou 1) k_M_79 (rc_M hK hP) ⟨by decide, by decide⟩ rfl rfl (Nat.le_of_ble_eq_true rfl) ⟨Nat.le_refl _, Nat.le_refl _⟩ dM_test_114 (fun u H locs hw hP hD hS => ?_)
            obtain ⟨g31, rfl⟩ | ⟨g32, rfl⟩ := hw
            · exact absurd g31 (by decide)
            · refine lv_bipush (v := 27) S.1 S.2.1 dM_test_117 (by decide) ?_
              exact rt_i S hr hk hK hP hD hS ((by simp [mu26, g1, g4, g8, g19, g28, g32])) dM_test_119
          · refine lv_icmp_eq (tgt := 113) S.1 S.2.1 dM_test_106 (by decide) (fun _ => ?_) (fun g33 => absurd (by decide) g33)
            refine lv_iconst (v := 0) S.1 S.2.1 dM_test_113 (by decide) ?_
            refine cl_v (As := [.int 0]) (rest := []) S hN hK hP hD hS hA hl.1 (c_M_skip l D a _ pc ac lk mq ma mb ir sw io dl ha rd 26 md kf kb cn pf co ou 0) k_M_79 (rc_M hK hP) ⟨by decide, by decide⟩ rfl rfl (Nat.le_of_ble_eq_true rfl) ⟨Nat.le_refl _, Nat.le_refl _⟩ dM_test_114 (fun u H locs hw hP hD hS => ?_)
            obtain ⟨g34, rfl⟩ | ⟨g35, rfl⟩ := hw
            · refine lv_bipush (v := 27) S.1 S.2.1 dM_test_117 (by decide) ?_
              exact rt_i S hr hk hK hP hD hS ((by simp [mu26, g1, g4, g8, g19, g29, g34])) dM_test_119
            · exact absurd g35 (by decide)
    · refine lv_if_eq (tgt := 75) S.1 S.2.1 dM_test_65 (by decide) (fun g36 => absurd g36 (by decide)) (fun _ => ?_)
      refine lv_aload_n S.1 S.2.1 dM_test_68 rfl (lv_at hl 0 rfl) ?_
      refine g_M_M_ac S hK hP dM_test_69 ?_
      refine lv_if_eq (tgt := 92) S.1 S.2.1 dM_test_72 (by decide) (fun g37 => ?_) (fun g37 => ?_)
      · refine lv_iconst (v := 1) S.1 S.2.1 dM_test_92 (by decide) ?_
        refine lv_goto (tgt := 97) S.1 S.2.1 dM_test_93 (by decide) ?_
        refine lv_istore_n S.1 S.2.1 dM_test_97 rfl hl (by decide) rfl (fun ls hl => ?_)
        have hl : lv_has ls 3 [(1, .int 1), (0, .ref a.1)] := hl
        refine lv_aload_n S.1 S.2.1 dM_test_98 rfl (lv_at hl 1 rfl) ?_
        refine lv_iload_n S.1 S.2.1 dM_test_99 rfl (lv_at hl 0 rfl) ?_
        refine lv_aload_n S.1 S.2.1 dM_test_100 rfl (lv_at hl 1 rfl) ?_
        refine lv_bipush (v := 8) S.1 S.2.1 dM_test_101 (by decide) ?_
        refine cl_i (As := [.int 8]) (rest := [.int 1, .ref a.1]) S hN hK hP hD hS hA hl.1 (c_M_bit l D a _ pc ac lk mq ma mb ir sw io dl ha rd 26 md kf kb cn pf co ou 8) k_M_83 (rc_M hK hP) ⟨by decide, by decide⟩ rfl rfl (Nat.le_of_ble_eq_true rfl) ⟨Nat.le_refl _, Nat.le_refl _⟩ dM_test_103 (fun r u H locs hw hP hD hS => ?_)
        obtain ⟨g38, rfl, rfl⟩ | ⟨g39, rfl, rfl⟩ := hw
        · refine lv_icmp_eq (tgt := 113) S.1 S.2.1 dM_test_106 (by decide) (fun g40 => absurd g40 (by decide)) (fun _ => ?_)
          refine lv_iconst (v := 1) S.1 S.2.1 dM_test_109 (by decide) ?_
          refine lv_goto (tgt := 114) S.1 S.2.1 dM_test_110 (by decide) ?_
          refine cl_v (As := [.int 1]) (rest := []) S hN hK hP hD hS hA hl.1 (c_M_skip l D a _ pc ac lk mq ma mb ir sw io dl ha rd 26 md kf kb cn pf co ou 1) k_M_79 (rc_M hK hP) ⟨by decide, by decide⟩ rfl rfl (Nat.le_of_ble_eq_true rfl) ⟨Nat.le_refl _, Nat.le_refl _⟩ dM_test_114 (fun u H locs hw hP hD hS => ?_)
          obtain ⟨g41, rfl⟩ | ⟨g42, rfl⟩ := hw
          · exact absurd g41 (by decide)
          · refine lv_bipush (v := 27) S.1 S.2.1 dM_test_117 (by decide) ?_
            exact rt_i S hr hk hK hP hD hS ((by simp [mu26, g1, g5, g37, g38, g42])) dM_test_119
        · refine lv_icmp_eq (tgt := 113) S.1 S.2.1 dM_test_106 (by decide) (fun _ => ?_) (fun g43 => absurd (by decide) g43)
          refine lv_iconst (v := 0) S.1 S.2.1 dM_test_113 (by decide) ?_
          refine cl_v (As := [.int 0]) (rest := []) S hN hK hP hD hS hA hl.1 (c_M_skip l D a _ pc ac lk mq ma mb ir sw io dl ha rd 26 md kf kb cn pf co ou 0) k_M_79 (rc_M hK hP) ⟨by decide, by decide⟩ rfl rfl (Nat.le_of_ble_eq_true rfl) ⟨Nat.le_refl _, Nat.le_refl _⟩ dM_test_114 (fun u H locs hw hP hD hS => ?_)
          obtain ⟨g44, rfl⟩ | ⟨g45, rfl⟩ := hw
          · refine lv_bipush (v := 27) S.1 S.2.1 dM_test_117 (by decide) ?_
            exact rt_i S hr hk hK hP hD hS ((by simp [mu26, g1, g5, g37, g39, g44])) dM_test_119
          · exact absurd g45 (by decide)
      · refine lv_aload_n S.1 S.2.1 dM_test_75 rfl (lv_at hl 0 rfl) ?_
        refine lv_bipush (v := 16) S.1 S.2.1 dM_test_76 (by decide) ?_
        refine cl_i (As := [.int 16]) (rest := []) S hN hK hP hD hS hA hl.1 (c_M_bit l D a _ pc ac lk mq ma mb ir sw io dl ha rd 26 md kf kb cn pf co ou 16) k_M_83 (rc_M hK hP) ⟨by decide, by decide⟩ rfl rfl (Nat.le_of_ble_eq_true rfl) ⟨Nat.le_refl _, Nat.le_refl _⟩ dM_test_78 (fun r u H locs hw hP hD hS => ?_)
        obtain ⟨g46, rfl, rfl⟩ | ⟨g47, rfl, rfl⟩ := hw
        · refine lv_if_eq (tgt := 96) S.1 S.2.1 dM_test_81 (by decide) (fun _ => ?_) (fun g48 => absurd (by decide) g48)
          refine lv_iconst (v := 0) S.1 S.2.1 dM_test_96 (by decide) ?_
          refine lv_istore_n S.1 S.2.1 dM_test_97 rfl hl (by decide) rfl (fun ls hl => ?_)
          have hl : lv_has ls 3 [(1, .int 0), (0, .ref a.1)] := hl
          refine lv_aload_n S.1 S.2.1 dM_test_98 rfl (lv_at hl 1 rfl) ?_
          refine lv_iload_n S.1 S.2.1 dM_test_99 rfl (lv_at hl 0 rfl) ?_
          refine lv_aload_n S.1 S.2.1 dM_test_100 rfl (lv_at hl 1 rfl) ?_
          refine lv_bipush (v := 8) S.1 S.2.1 dM_test_101 (by decide) ?_
          refine cl_i (As := [.int 8]) (rest := [.int 0, .ref a.1]) S hN hK hP hD hS hA hl.1 (c_M_bit l D a _ pc ac lk mq ma mb ir sw io dl ha rd 26 md kf kb cn pf co ou 8) k_M_83 (rc_M hK hP) ⟨by decide, by decide⟩ rfl rfl (Nat.le_of_ble_eq_true rfl) ⟨Nat.le_refl _, Nat.le_refl _⟩ dM_test_103 (fun r u H locs hw hP hD hS => ?_)
          obtain ⟨g49, rfl, rfl⟩ | ⟨g50, rfl, rfl⟩ := hw
          · refine lv_icmp_eq (tgt := 113) S.1 S.2.1 dM_test_106 (by decide) (fun _ => ?_) (fun g51 => absurd (by decide) g51)
            refine lv_iconst (v := 0) S.1 S.2.1 dM_test_113 (by decide) ?_
            refine cl_v (As := [.int 0]) (rest := []) S hN hK hP hD hS hA hl.1 (c_M_skip l D a _ pc ac lk mq ma mb ir sw io dl ha rd 26 md kf kb cn pf co ou 0) k_M_79 (rc_M hK hP) ⟨by decide, by decide⟩ rfl rfl (Nat.le_of_ble_eq_true rfl) ⟨Nat.le_refl _, Nat.le_refl _⟩ dM_test_114 (fun u H locs hw hP hD hS => ?_)
            obtain ⟨g52, rfl⟩ | ⟨g53, rfl⟩ := hw
            · refine lv_bipush (v := 27) S.1 S.2.1 dM_test_117 (by decide) ?_
              exact rt_i S hr hk hK hP hD hS ((by simp [mu26, g1, g5, g37, g46, g49, g52])) dM_test_119
            · exact absurd g53 (by decide)
          · refine lv_icmp_eq (tgt := 113) S.1 S.2.1 dM_test_106 (by decide) (fun g54 => absurd g54 (by decide)) (fun _ => ?_)
            refine lv_iconst (v := 1) S.1 S.2.1 dM_test_109 (by decide) ?_
            refine lv_goto (tgt := 114) S.1 S.2.1 dM_test_110 (by decide) ?_
            refine cl_v (As := [.int 1]) (rest := []) S hN hK hP hD hS hA hl.1 (c_M_skip l D a _ pc ac lk mq ma mb ir sw io dl ha rd 26 md kf kb cn pf co ou 1) k_M_79 (rc_M hK hP) ⟨by decide, by decide⟩ rfl rfl (Nat.le_of_ble_eq_true rfl) ⟨Nat.le_refl _, Nat.le_refl _⟩ dM_test_114 (fun u H locs hw hP hD hS => ?_)
            obtain ⟨g55, rfl⟩ | ⟨g56, rfl⟩ := hw
            · exact absurd g55 (by decide)
            · refine lv_bipush (v := 27) S.1 S.2.1 dM_test_117 (by decide) ?_
              exact rt_i S hr hk hK hP hD hS ((by simp [mu26, g1, g5, g37, g46, g50, g56])) dM_test_119
        · refine lv_if_eq (tgt := 96) S.1 S.2.1 dM_test_81 (by decide) (fun g57 => absurd g57 (by decide)) (fun _ => ?_)
          refine lv_aload_n S.1 S.2.1 dM_test_84 rfl (lv_at hl 0 rfl) ?_
          refine g_M_M_link S hK hP dM_test_85 ?_
          refine lv_iconst (v := 1) S.1 S.2.1 dM_test_88 (by decide) ?_
          refine lv_icmp_ne (tgt := 96) S.1 S.2.1 dM_test_89 (by decide) (fun g58 => ?_) (fun g58 => ?_)
          · refine lv_iconst (v := 0) S.1 S.2.1 dM_test_96 (by decide) ?_
            refine lv_istore_n S.1 S.2.1 dM_test_97 rfl hl (by decide) rfl (fun ls hl => ?_)
            have hl : lv_has ls 3 [(1, .int 0), (0, .ref a.1)] := hl
            refine lv_aload_n S.1 S.2.1 dM_test_98 rfl (lv_at hl 1 rfl) ?_
            refine lv_iload_n S.1 S.2.1 dM_test_99 rfl (lv_at hl 0 rfl) ?_
            refine lv_aload_n S.1 S.2.1 dM_test_100 rfl (lv_at hl 1 rfl) ?_
            refine lv_bipush (v := 8) S.1 S.2.1 dM_test_101 (by decide) ?_
            refine cl_i (As := [.int 8]) (rest := [.int 0, .ref a.1]) S hN hK hP hD hS hA hl.1 (c_M_bit l D a _ pc ac lk mq ma mb ir sw io dl ha rd 26 md kf kb cn pf co ou 8) k_M_83 (rc_M hK hP) ⟨by decide, by decide⟩ rfl rfl (Nat.le_of_ble_eq_true rfl) ⟨Nat.le_refl _, Nat.le_refl _⟩ dM_test_103 (fun r u H locs hw hP hD hS => ?_)
            obtain ⟨g59, rfl, rfl⟩ | ⟨g60, rfl, rfl⟩ := hw
            · refine lv_icmp_eq (tgt := 113) S.1 S.2.1 dM_test_106 (by decide) (fun _ => ?_) (fun g61 => absurd (by decide) g61)
              refine lv_iconst (v := 0) S.1 S.2.1 dM_test_113 (by decide) ?_
              refine cl_v (As := [.int 0]) (rest := []) S hN hK hP hD hS hA hl.1 (c_M_skip l D a _ pc ac lk mq ma mb ir sw io dl ha rd 26 md kf kb cn pf co ou 0) k_M_79 (rc_M hK hP) ⟨by decide, by decide⟩ rfl rfl (Nat.le_of_ble_eq_true rfl) ⟨Nat.le_refl _, Nat.le_refl _⟩ dM_test_114 (fun u H locs hw hP hD hS => ?_)
              obtain ⟨g62, rfl⟩ | ⟨g63, rfl⟩ := hw
              · refine lv_bipush (v := 27) S.1 S.2.1 dM_test_117 (by decide) ?_
                exact rt_i S hr hk hK hP hD hS ((by simp [mu26, g1, g5, g37, g47, g58, g59, g62])) dM_test_119
              · exact absurd g63 (by decide)
            · refine lv_icmp_eq (tgt := 113) S.1 S.2.1 dM_test_106 (by decide) (fun g64 => absurd g64 (by decide)) (fun _ => ?_)
              refine lv_iconst (v := 1) S.1 S.2.1 dM_test_109 (by decide) ?_
              refine lv_goto (tgt := 114) S.1 S.2.1 dM_test_110 (by decide) ?_
              refine cl_v (As := [.int 1]) (rest := []) S hN hK hP hD hS hA hl.1 (c_M_skip l D a _ pc ac lk mq ma mb ir sw io dl ha rd 26 md kf kb cn pf co ou 1) k_M_79 (rc_M hK hP) ⟨by decide, by decide⟩ rfl rfl (Nat.le_of_ble_eq_true rfl) ⟨Nat.le_refl _, Nat.le_refl _⟩ dM_test_114 (fun u H locs hw hP hD hS => ?_)
              obtain ⟨g65, rfl⟩ | ⟨g66, rfl⟩ := hw
              · exact absurd g65 (by decide)
              · refine lv_bipush (v := 27) S.1 S.2.1 dM_test_117 (by decide) ?_
                exact rt_i S hr hk hK hP hD hS ((by simp [mu26, g1, g5, g37, g47, g58, g60, g66])) dM_test_119
          · refine lv_iconst (v := 1) S.1 S.2.1 dM_test_92 (by decide) ?_
            refine lv_goto (tgt := 97) S.1 S.2.1 dM_test_93 (by decide) ?_
            refine lv_istore_n S.1 S.2.1 dM_test_97 rfl hl (by decide) rfl (fun ls hl => ?_)
            have hl : lv_has ls 3 [(1, .int 1), (0, .ref a.1)] := hl
            refine lv_aload_n S.1 S.2.1 dM_test_98 rfl (lv_at hl 1 rfl) ?_
            refine lv_iload_n S.1 S.2.1 dM_test_99 rfl (lv_at hl 0 rfl) ?_
            refine lv_aload_n S.1 S.2.1 dM_test_100 rfl (lv_at hl 1 rfl) ?_
            refine lv_bipush (v := 8) S.1 S.2.1 dM_test_101 (by decide) ?_
            refine cl_i (As := [.int 8]) (rest := [.int 1, .ref a.1]) S hN hK hP hD hS hA hl.1 (c_M_bit l D a _ pc ac lk mq ma mb ir sw io dl ha rd 26 md kf kb cn pf co ou 8) k_M_83 (rc_M hK hP) ⟨by decide, by decide⟩ rfl rfl (Nat.le_of_ble_eq_true rfl) ⟨Nat.le_refl _, Nat.le_refl _⟩ dM_test_103 (fun r u H locs hw hP hD hS => ?_)
            obtain ⟨g67, rfl, rfl⟩ | ⟨g68, rfl, rfl⟩ := hw
            · refine lv_icmp_eq (tgt := 113) S.1 S.2.1 dM_test_106 (by decide) (fun g69 => absurd g69 (by decide)) (fun _ => ?_)
              refine lv_iconst (v := 1) S.1 S.2.1 dM_test_109 (by decide) ?_
              refine lv_goto (tgt := 114) S.1 S.2.1 dM_test_110 (by decide) ?_
              refine cl_v (As := [.int 1]) (rest := []) S hN hK hP hD hS hA hl.1 (c_M_skip l D a _ pc ac lk mq ma mb ir sw io dl ha rd 26 md kf kb cn pf co ou 1) k_M_79 (rc_M hK hP) ⟨by decide, by decide⟩ rfl rfl (Nat.le_of_ble_eq_true rfl) ⟨Nat.le_refl _, Nat.le_refl _⟩ dM_test_114 (fun u H locs hw hP hD hS => ?_)
              obtain ⟨g70, rfl⟩ | ⟨g71, rfl⟩ := hw
              · exact absurd g70 (by decide)
              · refine lv_bipush (v := 27) S.1 S.2.1 dM_test_117 (by decide) ?_
                exact rt_i S hr hk hK hP hD hS ((by simp [mu26, g1, g5, g37, g47, g58, g67, g71])) dM_test_119
            · refine lv_icmp_eq (tgt := 113) S.1 S.2.1 dM_test_106 (by decide) (fun _ => ?_) (fun g72 => absurd (by decide) g72)
              refine lv_iconst (v := 0) S.1 S.2.1 dM_test_113 (by decide) ?_
              refine cl_v (As := [.int 0]) (rest := []) S hN hK hP hD hS hA hl.1 (c_M_skip l D a _ pc ac lk mq ma mb ir sw io dl ha rd 26 md kf kb cn pf co ou 0) k_M_79 (rc_M hK hP) ⟨by decide, by decide⟩ rfl rfl (Nat.le_of_ble_eq_true rfl) ⟨Nat.le_refl _, Nat.le_refl _⟩ dM_test_114 (fun u H locs hw hP hD hS => ?_)
              obtain ⟨g73, rfl⟩ | ⟨g74, rfl⟩ := hw
              · refine lv_bipush (v := 27) S.1 S.2.1 dM_test_117 (by decide) ?_
                exact rt_i S hr hk hK hP hD hS ((by simp [mu26, g1, g5, g37, g47, g58, g68, g73])) dM_test_119
              · exact absurd g74 (by decide)
  · refine lv_if_eq (tgt := 59) S.1 S.2.1 dM_test_46 (by decide) (fun g75 => absurd g75 (by decide)) (fun _ => ?_)
    refine lv_aload_n S.1 S.2.1 dM_test_49 rfl (lv_at hl 0 rfl) ?_
    refine g_M_M_ac S hK hP dM_test_50 ?_
    refine lv_sipush (v := 2048) S.1 S.2.1 dM_test_53 (by decide) ?_
    refine lv_icmp_ge (tgt := 92) S.1 S.2.1 dM_test_56 (by decide) (fun g76 => ?_) (fun g76 => ?_)
    · refine lv_iconst (v := 1) S.1 S.2.1 dM_test_92 (by decide) ?_
      refine lv_goto (tgt := 97) S.1 S.2.1 dM_test_93 (by decide) ?_
      refine lv_istore_n S.1 S.2.1 dM_test_97 rfl hl (by decide) rfl (fun ls hl => ?_)
      have hl : lv_has ls 3 [(1, .int 1), (0, .ref a.1)] := hl
      refine lv_aload_n S.1 S.2.1 dM_test_98 rfl (lv_at hl 1 rfl) ?_
      refine lv_iload_n S.1 S.2.1 dM_test_99 rfl (lv_at hl 0 rfl) ?_
      refine lv_aload_n S.1 S.2.1 dM_test_100 rfl (lv_at hl 1 rfl) ?_
      refine lv_bipush (v := 8) S.1 S.2.1 dM_test_101 (by decide) ?_
      refine cl_i (As := [.int 8]) (rest := [.int 1, .ref a.1]) S hN hK hP hD hS hA hl.1 (c_M_bit l D a _ pc ac lk mq ma mb ir sw io dl ha rd 26 md kf kb cn pf co ou 8) k_M_83 (rc_M hK hP) ⟨by decide, by decide⟩ rfl rfl (Nat.le_of_ble_eq_true rfl) ⟨Nat.le_refl _, Nat.le_refl _⟩ dM_test_103 (fun r u H locs hw hP hD hS => ?_)
      obtain ⟨g77, rfl, rfl⟩ | ⟨g78, rfl, rfl⟩ := hw
      · refine lv_icmp_eq (tgt := 113) S.1 S.2.1 dM_test_106 (by decide) (fun g79 => absurd g79 (by decide)) (fun _ => ?_)
        refine lv_iconst (v := 1) S.1 S.2.1 dM_test_109 (by decide) ?_
        refine lv_goto (tgt := 114) S.1 S.2.1 dM_test_110 (by decide) ?_
        refine cl_v (As := [.int 1]) (rest := []) S hN hK hP hD hS hA hl.1 (c_M_skip l D a _ pc ac lk mq ma mb ir sw io dl ha rd 26 md kf kb cn pf co ou 1) k_M_79 (rc_M hK hP) ⟨by decide, by decide⟩ rfl rfl (Nat.le_of_ble_eq_true rfl) ⟨Nat.le_refl _, Nat.le_refl _⟩ dM_test_114 (fun u H locs hw hP hD hS => ?_)
        obtain ⟨g80, rfl⟩ | ⟨g81, rfl⟩ := hw
        · exact absurd g80 (by decide)
        · refine lv_bipush (v := 27) S.1 S.2.1 dM_test_117 (by decide) ?_
          exact rt_i S hr hk hK hP hD hS ((by simp [mu26, g2, g76, g77, g81])) dM_test_119
      · refine lv_icmp_eq (tgt := 113) S.1 S.2.1 dM_test_106 (by decide) (fun _ => ?_) (fun g82 => absurd (by decide) g82)
        refine lv_iconst (v := 0) S.1 S.2.1 dM_test_113 (by decide) ?_
        refine cl_v (As := [.int 0]) (rest := []) S hN hK hP hD hS hA hl.1 (c_M_skip l D a _ pc ac lk mq ma mb ir sw io dl ha rd 26 md kf kb cn pf co ou 0) k_M_79 (rc_M hK hP) ⟨by decide, by decide⟩ rfl rfl (Nat.le_of_ble_eq_true rfl) ⟨Nat.le_refl _, Nat.le_refl _⟩ dM_test_114 (fun u H locs hw hP hD hS => ?_)
        obtain ⟨g83, rfl⟩ | ⟨g84, rfl⟩ := hw
        · refine lv_bipush (v := 27) S.1 S.2.1 dM_test_117 (by decide) ?_
          exact rt_i S hr hk hK hP hD hS ((by simp [mu26, g2, g76, g78, g83])) dM_test_119
        · exact absurd g84 (by decide)
    · refine lv_aload_n S.1 S.2.1 dM_test_59 rfl (lv_at hl 0 rfl) ?_
      refine lv_bipush (v := 32) S.1 S.2.1 dM_test_60 (by decide) ?_
      refine cl_i (As := [.int 32]) (rest := []) S hN hK hP hD hS hA hl.1 (c_M_bit l D a _ pc ac lk mq ma mb ir sw io dl ha rd 26 md kf kb cn pf co ou 32) k_M_83 (rc_M hK hP) ⟨by decide, by decide⟩ rfl rfl (Nat.le_of_ble_eq_true rfl) ⟨Nat.le_refl _, Nat.le_refl _⟩ dM_test_62 (fun r u H locs hw hP hD hS => ?_)
      obtain ⟨g85, rfl, rfl⟩ | ⟨g86, rfl, rfl⟩ := hw
      · refine lv_if_eq (tgt := 75) S.1 S.2.1 dM_test_65 (by decide) (fun _ => ?_) (fun g87 => absurd (by decide) g87)
        refine lv_aload_n S.1 S.2.1 dM_test_75 rfl (lv_at hl 0 rfl) ?_
        refine lv_bipush (v := 16) S.1 S.2.1 dM_test_76 (by decide) ?_
        refine cl_i (As := [.int 16]) (rest := []) S hN hK hP hD hS hA hl.1 (c_M_bit l D a _ pc ac lk mq ma mb ir sw io dl ha rd 26 md kf kb cn pf co ou 16) k_M_83 (rc_M hK hP) ⟨by decide, by decide⟩ rfl rfl (Nat.le_of_ble_eq_true rfl) ⟨Nat.le_refl _, Nat.le_refl _⟩ dM_test_78 (fun r u H locs hw hP hD hS => ?_)
        obtain ⟨g88, rfl, rfl⟩ | ⟨g89, rfl, rfl⟩ := hw
        · refine lv_if_eq (tgt := 96) S.1 S.2.1 dM_test_81 (by decide) (fun _ => ?_) (fun g90 => absurd (by decide) g90)
          refine lv_iconst (v := 0) S.1 S.2.1 dM_test_96 (by decide) ?_
          refine lv_istore_n S.1 S.2.1 dM_test_97 rfl hl (by decide) rfl (fun ls hl => ?_)
          have hl : lv_has ls 3 [(1, .int 0), (0, .ref a.1)] := hl
          refine lv_aload_n S.1 S.2.1 dM_test_98 rfl (lv_at hl 1 rfl) ?_
          refine lv_iload_n S.1 S.2.1 dM_test_99 rfl (lv_at hl 0 rfl) ?_
          refine lv_aload_n S.1 S.2.1 dM_test_100 rfl (lv_at hl 1 rfl) ?_
          refine lv_bipush (v := 8) S.1 S.2.1 dM_test_101 (by decide) ?_
          refine cl_i (As := [.int 8]) (rest := [.int 0, .ref a.1]) S hN hK hP hD hS hA hl.1 (c_M_bit l D a _ pc ac lk mq ma mb ir sw io dl ha rd 26 md kf kb cn pf co ou 8) k_M_83 (rc_M hK hP) ⟨by decide, by decide⟩ rfl rfl (Nat.le_of_ble_eq_true rfl) ⟨Nat.le_refl _, Nat.le_refl _⟩ dM_test_103 (fun r u H locs hw hP hD hS => ?_)
          obtain ⟨g91, rfl, rfl⟩ | ⟨g92, rfl, rfl⟩ := hw
          · refine lv_icmp_eq (tgt := 113) S.1 S.2.1 dM_test_106 (by decide) (fun _ => ?_) (fun g93 => absurd (by decide) g93)
            refine lv_iconst (v := 0) S.1 S.2.1 dM_test_113 (by decide) ?_
            refine cl_v (As := [.int 0]) (rest := []) S hN hK hP hD hS hA hl.1 (c_M_skip l D a _ pc ac lk mq ma mb ir sw io dl ha rd 26 md kf kb cn pf co ou 0) k_M_79 (rc_M hK hP) ⟨by decide, by decide⟩ rfl rfl (Nat.le_of_ble_eq_true rfl) ⟨Nat.le_refl _, Nat.le_refl _⟩ dM_test_114 (fun u H locs hw hP hD hS => ?_)
            obtain ⟨g94, rfl⟩ | ⟨g95, rfl⟩ := hw
            · refine lv_bipush (v := 27) S.1 S.2.1 dM_test_117 (by decide) ?_
              exact rt_i S hr hk hK hP hD hS ((by simp [mu26, g2, g76, g85, g88, g91, g94])) dM_test_119
            · exact absurd g95 (by decide)
          · refine lv_icmp_eq (tgt := 113) S.1 S.2.1 dM_test_106 (by decide) (fun g96 => absurd g96 (by decide)) (fun _ => ?_)
            refine lv_iconst (v := 1) S.1 S.2.1 dM_test_109 (by decide) ?_
            refine lv_goto (tgt := 114) S.1 S.2.1 dM_test_110 (by decide) ?_
            refine cl_v (As := [.int 1]) (rest := []) S hN hK hP hD hS hA hl.1 (c_M_skip l D a _ pc ac lk mq ma mb ir sw io dl ha rd 26 md kf kb cn pf co ou 1) k_M_79 (rc_M hK hP) ⟨by decide, by decide⟩ rfl rfl (Nat.le_of_ble_eq_true rfl) ⟨Nat.le_refl _, Nat.le_refl _⟩ dM_test_114 (fun u H locs hw hP hD hS => ?_)
            obtain ⟨g97, rfl⟩ | ⟨g98, rfl⟩ := hw
            · exact absurd g97 (by decide)
            · refine lv_bipush (v := 27) S.1 S.2.1 dM_test_117 (by decide) ?_
              exact rt_i S hr hk hK hP hD hS ((by simp [mu26, g2, g76, g85, g88, g92, g98])) dM_test_119
        · refine lv_if_eq (tgt := 96) S.1 S.2.1 dM_test_81 (by decide) (fun g99 => absurd g99 (by decide)) (fun _ => ?_)
          refine lv_aload_n S.1 S.2.1 dM_test_84 rfl (lv_at hl 0 rfl) ?_
          refine g_M_M_link S hK hP dM_test_85 ?_
          refine lv_iconst (v := 1) S.1 S.2.1 dM_test_88 (by decide) ?_
          refine lv_icmp_ne (tgt := 96) S.1 S.2.1 dM_test_89 (by decide) (fun g100 => ?_) (fun g100 => ?_)
          · refine lv_iconst (v := 0) S.1 S.2.1 dM_test_96 (by decide) ?_
            refine lv_istore_n S.1 S.2.1 dM_test_97 rfl hl (by decide) rfl (fun ls hl => ?_)
            have hl : lv_has ls 3 [(1, .int 0), (0, .ref a.1)] := hl
            refine lv_aload_n S.1 S.2.1 dM_test_98 rfl (lv_at hl 1 rfl) ?_
            refine lv_iload_n S.1 S.2.1 dM_test_99 rfl (lv_at hl 0 rfl) ?_
            refine lv_aload_n S.1 S.2.1 dM_test_100 rfl (lv_at hl 1 rfl) ?_
            refine lv_bipush (v := 8) S.1 S.2.1 dM_test_101 (by decide) ?_
            refine cl_i (As := [.int 8]) (rest := [.int 0, .ref a.1]) S hN hK hP hD hS hA hl.1 (c_M_bit l D a _ pc ac lk mq ma mb ir sw io dl ha rd 26 md kf kb cn pf co ou 8) k_M_83 (rc_M hK hP) ⟨by decide, by decide⟩ rfl rfl (Nat.le_of_ble_eq_true rfl) ⟨Nat.le_refl _, Nat.le_refl _⟩ dM_test_103 (fun r u H locs hw hP hD hS => ?_)
            obtain ⟨g101, rfl, rfl⟩ | ⟨g102, rfl, rfl⟩ := hw
            · refine lv_icmp_eq (tgt := 113) S.1 S.2.1 dM_test_106 (by decide) (fun _ => ?_) (fun g103 => absurd (by decide) g103)
              refine lv_iconst (v := 0) S.1 S.2.1 dM_test_113 (by decide) ?_
              refine cl_v (As := [.int 0]) (rest := []) S hN hK hP hD hS hA hl.1 (c_M_skip l D a _ pc ac lk mq ma mb ir sw io dl ha rd 26 md kf kb cn pf co ou 0) k_M_79 (rc_M hK hP) ⟨by decide, by decide⟩ rfl rfl (Nat.le_of_ble_eq_true rfl) ⟨Nat.le_refl _, Nat.le_refl _⟩ dM_test_114 (fun u H locs hw hP hD hS => ?_)
              obtain ⟨g104, rfl⟩ | ⟨g105, rfl⟩ := hw
              · refine lv_bipush (v := 27) S.1 S.2.1 dM_test_117 (by decide) ?_
                exact rt_i S hr hk hK hP hD hS ((by simp [mu26, g2, g76, g85, g89, g100, g101, g104])) dM_test_119
              · exact absurd g105 (by decide)
            · refine lv_icmp_eq (tgt := 113) S.1 S.2.1 dM_test_106 (by decide) (fun g106 => absurd g106 (by decide)) (fun _ => ?_)
              refine lv_iconst (v := 1) S.1 S.2.1 dM_test_109 (by decide) ?_
              refine lv_goto (tgt := 114) S.1 S.2.1 dM_test_110 (by decide) ?_
              refine cl_v (As := [.int 1]) (rest := []) S hN hK hP hD hS hA hl.1 (c_M_skip l D a _ pc ac lk mq ma mb ir sw io dl ha rd 26 md kf kb cn pf co ou 1) k_M_79 (rc_M hK hP) ⟨by decide, by decide⟩ rfl rfl (Nat.le_of_ble_eq_true rfl) ⟨Nat.le_refl _, Nat.le_refl _⟩ dM_test_114 (fun u H locs hw hP hD hS => ?_)
              obtain ⟨g107, rfl⟩ | ⟨g108, rfl⟩ := hw
              · exact absurd g107 (by decide)
              · refine lv_bipush (v := 27) S.1 S.2.1 dM_test_117 (by decide) ?_
                exact rt_i S hr hk hK hP hD hS ((by simp [mu26, g2, g76, g85, g89, g100, g102, g108])) dM_test_119
          · refine lv_iconst (v := 1) S.1 S.2.1 dM_test_92 (by decide) ?_
            refine lv_goto (tgt := 97) S.1 S.2.1 dM_test_93 (by decide) ?_
            refine lv_istore_n S.1 S.2.1 dM_test_97 rfl hl (by decide) rfl (fun ls hl => ?_)
            have hl : lv_has ls 3 [(1, .int 1), (0, .ref a.1)] := hl
            refine lv_aload_n S.1 S.2.1 dM_test_98 rfl (lv_at hl 1 rfl) ?_
            refine lv_iload_n S.1 S.2.1 dM_test_99 rfl (lv_at hl 0 rfl) ?_
            refine lv_aload_n S.1 S.2.1 dM_test_100 rfl (lv_at hl 1 rfl) ?_
            refine lv_bipush (v := 8) S.1 S.2.1 dM_test_101 (by decide) ?_
            refine cl_i (As := [.int 8]) (rest := [.int 1, .ref a.1]) S hN hK hP hD hS hA hl.1 (c_M_bit l D a _ pc ac lk mq ma mb ir sw io dl ha rd 26 md kf kb cn pf co ou 8) k_M_83 (rc_M hK hP) ⟨by decide, by decide⟩ rfl rfl (Nat.le_of_ble_eq_true rfl) ⟨Nat.le_refl _, Nat.le_refl _⟩ dM_test_103 (fun r u H locs hw hP hD hS => ?_)
            obtain ⟨g109, rfl, rfl⟩ | ⟨g110, rfl, rfl⟩ := hw
            · refine lv_icmp_eq (tgt := 113) S.1 S.2.1 dM_test_106 (by decide) (fun g111 => absurd g111 (by decide)) (fun _ => ?_)
              refine lv_iconst (v := 1) S.1 S.2.1 dM_test_109 (by decide) ?_
              refine lv_goto (tgt := 114) S.1 S.2.1 dM_test_110 (by decide) ?_
              refine cl_v (As := [.int 1]) (rest := []) S hN hK hP hD hS hA hl.1 (c_M_skip l D a _ pc ac lk mq ma mb ir sw io dl ha rd 26 md kf kb cn pf co ou 1) k_M_79 (rc_M hK hP) ⟨by decide, by decide⟩ rfl rfl (Nat.le_of_ble_eq_true rfl) ⟨Nat.le_refl _, Nat.le_refl _⟩ dM_test_114 (fun u H locs hw hP hD hS => ?_)
              obtain ⟨g112, rfl⟩ | ⟨g113, rfl⟩ := hw
              · exact absurd g112 (by decide)
              · refine lv_bipush (v := 27) S.1 S.2.1 dM_test_117 (by decide) ?_
                exact rt_i S hr hk hK hP hD hS ((by simp [mu26, g2, g76, g85, g89, g100, g109, g113])) dM_test_119
            · refine lv_icmp_eq (tgt := 113) S.1 S.2.1 dM_test_106 (by decide) (fun _ => ?_) (fun g114 => absurd (by decide) g114)
              refine lv_iconst (v := 0) S.1 S.2.1 dM_test_113 (by decide) ?_
              refine cl_v (As := [.int 0]) (rest := []) S hN hK hP hD hS hA hl.1 (c_M_skip l D a _ pc ac lk mq ma mb ir sw io dl ha rd 26 md kf kb cn pf co ou 0) k_M_79 (rc_M hK hP) ⟨by decide, by decide⟩ rfl rfl (Nat.le_of_ble_eq_true rfl) ⟨Nat.le_refl _, Nat.le_refl _⟩ dM_test_114 (fun u H locs hw hP hD hS => ?_)
              obtain ⟨g115, rfl⟩ | ⟨g116, rfl⟩ := hw
              · refine lv_bipush (v := 27) S.1 S.2.1 dM_test_117 (by decide) ?_
                exact rt_i S hr hk hK hP hD hS ((by simp [mu26, g2, g76, g85, g89, g100, g110, g115])) dM_test_119
              · exact absurd g116 (by decide)
      · refine lv_if_eq (tgt := 75) S.1 S.2.1 dM_test_65 (by decide) (fun g117 => absurd g117 (by decide)) (fun _ => ?_)
        refine lv_aload_n S.1 S.2.1 dM_test_68 rfl (lv_at hl 0 rfl) ?_
        refine g_M_M_ac S hK hP dM_test_69 ?_
        refine lv_if_eq (tgt := 92) S.1 S.2.1 dM_test_72 (by decide) (fun g118 => ?_) (fun g118 => ?_)
        · refine lv_iconst (v := 1) S.1 S.2.1 dM_test_92 (by decide) ?_
          refine lv_goto (tgt := 97) S.1 S.2.1 dM_test_93 (by decide) ?_
          refine lv_istore_n S.1 S.2.1 dM_test_97 rfl hl (by decide) rfl (fun ls hl => ?_)
          have hl : lv_has ls 3 [(1, .int 1), (0, .ref a.1)] := hl
          refine lv_aload_n S.1 S.2.1 dM_test_98 rfl (lv_at hl 1 rfl) ?_
          refine lv_iload_n S.1 S.2.1 dM_test_99 rfl (lv_at hl 0 rfl) ?_
          refine lv_aload_n S.1 S.2.1 dM_test_100 rfl (lv_at hl 1 rfl) ?_
          refine lv_bipush (v := 8) S.1 S.2.1 dM_test_101 (by decide) ?_
          refine cl_i (As := [.int 8]) (rest := [.int 1, .ref a.1]) S hN hK hP hD hS hA hl.1 (c_M_bit l D a _ pc ac lk mq ma mb ir sw io dl ha rd 26 md kf kb cn pf co ou 8) k_M_83 (rc_M hK hP) ⟨by decide, by decide⟩ rfl rfl (Nat.le_of_ble_eq_true rfl) ⟨Nat.le_refl _, Nat.le_refl _⟩ dM_test_103 (fun r u H locs hw hP hD hS => ?_)
          obtain ⟨g119, rfl, rfl⟩ | ⟨g120, rfl, rfl⟩ := hw
          · refine lv_icmp_eq (tgt := 113) S.1 S.2.1 dM_test_106 (by decide) (fun g121 => absurd g121 (by decide)) (fun _ => ?_)
            refine lv_iconst (v := 1) S.1 S.2.1 dM_test_109 (by decide) ?_
            refine lv_goto (tgt := 114) S.1 S.2.1 dM_test_110 (by decide) ?_
            refine cl_v (As := [.int 1]) (rest := []) S hN hK hP hD hS hA hl.1 (c_M_skip l D a _ pc ac lk mq ma mb ir sw io dl ha rd 26 md kf kb cn pf co ou 1) k_M_79 (rc_M hK hP) ⟨by decide, by decide⟩ rfl rfl (Nat.le_of_ble_eq_true rfl) ⟨Nat.le_refl _, Nat.le_refl _⟩ dM_test_114 (fun u H locs hw hP hD hS => ?_)
            obtain ⟨g122, rfl⟩ | ⟨g123, rfl⟩ := hw
            · exact absurd g122 (by decide)
            · refine lv_bipush (v := 27) S.1 S.2.1 dM_test_117 (by decide) ?_
              exact rt_i S hr hk hK hP hD hS ((by simp [mu26, g2, g76, g86, g118, g119, g123])) dM_test_119
          · refine lv_icmp_eq (tgt := 113) S.1 S.2.1 dM_test_106 (by decide) (fun _ => ?_) (fun g124 => absurd (by decide) g124)
            refine lv_iconst (v := 0) S.1 S.2.1 dM_test_113 (by decide) ?_
            refine cl_v (As := [.int 0]) (rest := []) S hN hK hP hD hS hA hl.1 (c_M_skip l D a _ pc ac lk mq ma mb ir sw io dl ha rd 26 md kf kb cn pf co ou 0) k_M_79 (rc_M hK hP) ⟨by decide, by decide⟩ rfl rfl (Nat.le_of_ble_eq_true rfl) ⟨Nat.le_refl _, Nat.le_refl _⟩ dM_test_114 (fun u H locs hw hP hD hS => ?_)
            obtain ⟨g125, rfl⟩ | ⟨g126, rfl⟩ := hw
            · refine lv_bipush (v := 27) S.1 S.2.1 dM_test_117 (by decide) ?_
              exact rt_i S hr hk hK hP hD hS ((by simp [mu26, g2, g76, g86, g118, g120, g125])) dM_test_119
            · exact absurd g126 (by decide)
        · refine lv_aload_n S.1 S.2.1 dM_test_75 rfl (lv_at hl 0 rfl) ?_
          refine lv_bipush (v := 16) S.1 S.2.1 dM_test_76 (by decide) ?_
          refine cl_i (As := [.int 16]) (rest := []) S hN hK hP hD hS hA hl.1 (c_M_bit l D a _ pc ac lk mq ma mb ir sw io dl ha rd 26 md kf kb cn pf co ou 16) k_M_83 (rc_M hK hP) ⟨by decide, by decide⟩ rfl rfl (Nat.le_of_ble_eq_true rfl) ⟨Nat.le_refl _, Nat.le_refl _⟩ dM_test_78 (fun r u H locs hw hP hD hS => ?_)
          obtain ⟨g127, rfl, rfl⟩ | ⟨g128, rfl, rfl⟩ := hw
          · refine lv_if_eq (tgt := 96) S.1 S.2.1 dM_test_81 (by decide) (fun _ => ?_) (fun g129 => absurd (by decide) g129)
            refine lv_iconst (v := 0) S.1 S.2.1 dM_test_96 (by decide) ?_
            refine lv_istore_n S.1 S.2.1 dM_test_97 rfl hl (by decide) rfl (fun ls hl => ?_)
            have hl : lv_has ls 3 [(1, .int 0), (0, .ref a.1)] := hl
            refine lv_aload_n S.1 S.2.1 dM_test_98 rfl (lv_at hl 1 rfl) ?_
            refine lv_iload_n S.1 S.2.1 dM_test_99 rfl (lv_at hl 0 rfl) ?_
            refine lv_aload_n S.1 S.2.1 dM_test_100 rfl (lv_at hl 1 rfl) ?_
            refine lv_bipush (v := 8) S.1 S.2.1 dM_test_101 (by decide) ?_
            refine cl_i (As := [.int 8]) (rest := [.int 0, .ref a.1]) S hN hK hP hD hS hA hl.1 (c_M_bit l D a _ pc ac lk mq ma mb ir sw io dl ha rd 26 md kf kb cn pf co ou 8) k_M_83 (rc_M hK hP) ⟨by decide, by decide⟩ rfl rfl (Nat.le_of_ble_eq_true rfl) ⟨Nat.le_refl _, Nat.le_refl _⟩ dM_test_103 (fun r u H locs hw hP hD hS => ?_)
            obtain ⟨g130, rfl, rfl⟩ | ⟨g131, rfl, rfl⟩ := hw
            · refine lv_icmp_eq (tgt := 113) S.1 S.2.1 dM_test_106 (by decide) (fun _ => ?_) (fun g132 => absurd (by decide) g132)
              refine lv_iconst (v := 0) S.1 S.2.1 dM_test_113 (by decide) ?_
              refine cl_v (As := [.int 0]) (rest := []) S hN hK hP hD hS hA hl.1 (c_M_skip l D a _ pc ac lk mq ma mb ir sw io dl ha rd 26 md kf kb cn pf co ou 0) k_M_79 (rc_M hK hP) ⟨by decide, by decide⟩ rfl rfl (Nat.le_of_ble_eq_true rfl) ⟨Nat.le_refl _, Nat.le_refl _⟩ dM_test_114 (fun u H locs hw hP hD hS => ?_)
              obtain ⟨g133, rfl⟩ | ⟨g134, rfl⟩ := hw
              · refine lv_bipush (v := 27) S.1 S.2.1 dM_test_117 (by decide) ?_
                exact rt_i S hr hk hK hP hD hS ((by simp [mu26, g2, g76, g86, g118, g127, g130, g133])) dM_test_119
              · exact absurd g134 (by decide)
            · refine lv_icmp_eq (tgt := 113) S.1 S.2.1 dM_test_106 (by decide) (fun g135 => absurd g135 (by decide)) (fun _ => ?_)
              refine lv_iconst (v := 1) S.1 S.2.1 dM_test_109 (by decide) ?_
              refine lv_goto (tgt := 114) S.1 S.2.1 dM_test_110 (by decide) ?_
              refine cl_v (As := [.int 1]) (rest := []) S hN hK hP hD hS hA hl.1 (c_M_skip l D a _ pc ac lk mq ma mb ir sw io dl ha rd 26 md kf kb cn pf co ou 1) k_M_79 (rc_M hK hP) ⟨by decide, by decide⟩ rfl rfl (Nat.le_of_ble_eq_true rfl) ⟨Nat.le_refl _, Nat.le_refl _⟩ dM_test_114 (fun u H locs hw hP hD hS => ?_)
              obtain ⟨g136, rfl⟩ | ⟨g137, rfl⟩ := hw
              · exact absurd g136 (by decide)
              · refine lv_bipush (v := 27) S.1 S.2.1 dM_test_117 (by decide) ?_
                exact rt_i S hr hk hK hP hD hS ((by simp [mu26, g2, g76, g86, g118, g127, g131, g137])) dM_test_119
          · refine lv_if_eq (tgt := 96) S.1 S.2.1 dM_test_81 (by decide) (fun g138 => absurd g138 (by decide)) (fun _ => ?_)
            refine lv_aload_n S.1 S.2.1 dM_test_84 rfl (lv_at hl 0 rfl) ?_
            refine g_M_M_link S hK hP dM_test_85 ?_
            refine lv_iconst (v := 1) S.1 S.2.1 dM_test_88 (by decide) ?_
            refine lv_icmp_ne (tgt := 96) S.1 S.2.1 dM_test_89 (by decide) (fun g139 => ?_) (fun g139 => ?_)
            · refine lv_iconst (v := 0) S.1 S.2.1 dM_test_96 (by decide) ?_
              refine lv_istore_n S.1 S.2.1 dM_test_97 rfl hl (by decide) rfl (fun ls hl => ?_)
              have hl : lv_has ls 3 [(1, .int 0), (0, .ref a.1)] := hl
              refine lv_aload_n S.1 S.2.1 dM_test_98 rfl (lv_at hl 1 rfl) ?_
              refine lv_iload_n S.1 S.2.1 dM_test_99 rfl (lv_at hl 0 rfl) ?_
              refine lv_aload_n S.1 S.2.1 dM_test_100 rfl (lv_at hl 1 rfl) ?_
              refine lv_bipush (v := 8) S.1 S.2.1 dM_test_101 (by decide) ?_
              refine cl_i (As := [.int 8]) (rest := [.int 0, .ref a.1]) S hN hK hP hD hS hA hl.1 (c_M_bit l D a _ pc ac lk mq ma mb ir sw io dl ha rd 26 md kf kb cn pf co ou 8) k_M_83 (rc_M hK hP) ⟨by decide, by decide⟩ rfl rfl (Nat.le_of_ble_eq_true rfl) ⟨Nat.le_refl _, Nat.le_refl _⟩ dM_test_103 (fun r u H locs hw hP hD hS => ?_)
              obtain ⟨g140, rfl, rfl⟩ | ⟨g141, rfl, rfl⟩ := hw
              · refine lv_icmp_eq (tgt := 113) S.1 S.2.1 dM_test_106 (by decide) (fun _ => ?_) (fun g142 => absurd (by decide) g142)
                refine lv_iconst (v := 0) S.1 S.2.1 dM_test_113 (by decide) ?_
                refine cl_v (As := [.int 0]) (rest := []) S hN hK hP hD hS hA hl.1 (c_M_skip l D a _ pc ac lk mq ma mb ir sw io dl ha rd 26 md kf kb cn pf co ou 0) k_M_79 (rc_M hK hP) ⟨by decide, by decide⟩ rfl rfl (Nat.le_of_ble_eq_true rfl) ⟨Nat.le_refl _, Nat.le_refl _⟩ dM_test_114 (fun u H locs hw hP hD hS => ?_)
                obtain ⟨g143, rfl⟩ | ⟨g144, rfl⟩ := hw
                · refine lv_bipush (v := 27) S.1 S.2.1 dM_test_117 (by decide) ?_
                  exact rt_i S hr hk hK hP hD hS ((by simp [mu26, g2, g76, g86, g118, g128, g139, g140, g143])) dM_test_119
                · exact absurd g144 (by decide)
              · refine lv_icmp_eq (tgt := 113) S.1 S.2.1 dM_test_106 (by decide) (fun g145 => absurd g145 (by decide)) (fun _ => ?_)
                refine lv_iconst (v := 1) S.1 S.2.1 dM_test_109 (by decide) ?_
                refine lv_goto (tgt := 114) S.1 S.2.1 dM_test_110 (by decide) ?_
                refine cl_v (As := [.int 1]) (rest := []) S hN hK hP hD hS hA hl.1 (c_M_skip l D a _ pc ac lk mq ma mb ir sw io dl ha rd 26 md kf kb cn pf co ou 1) k_M_79 (rc_M hK hP) ⟨by decide, by decide⟩ rfl rfl (Nat.le_of_ble_eq_true rfl) ⟨Nat.le_refl _, Nat.le_refl _⟩ dM_test_114 (fun u H locs hw hP hD hS => ?_)
                obtain ⟨g146, rfl⟩ | ⟨g147, rfl⟩ := hw
                · exact absurd g146 (by decide)
                · refine lv_bipush (v := 27) S.1 S.2.1 dM_test_117 (by decide) ?_
                  exact rt_i S hr hk hK hP hD hS ((by simp [mu26, g2, g76, g86, g118, g128, g139, g141, g147])) dM_test_119
            · refine lv_iconst (v := 1) S.1 S.2.1 dM_test_92 (by decide) ?_
              refine lv_goto (tgt := 97) S.1 S.2.1 dM_test_93 (by decide) ?_
              refine lv_istore_n S.1 S.2.1 dM_test_97 rfl hl (by decide) rfl (fun ls hl => ?_)
              have hl : lv_has ls 3 [(1, .int 1), (0, .ref a.1)] := hl
              refine lv_aload_n S.1 S.2.1 dM_test_98 rfl (lv_at hl 1 rfl) ?_
              refine lv_iload_n S.1 S.2.1 dM_test_99 rfl (lv_at hl 0 rfl) ?_
              refine lv_aload_n S.1 S.2.1 dM_test_100 rfl (lv_at hl 1 rfl) ?_
              refine lv_bipush (v := 8) S.1 S.2.1 dM_test_101 (by decide) ?_
              refine cl_i (As := [.int 8]) (rest := [.int 1, .ref a.1]) S hN hK hP hD hS hA hl.1 (c_M_bit l D a _ pc ac lk mq ma mb ir sw io dl ha rd 26 md kf kb cn pf co ou 8) k_M_83 (rc_M hK hP) ⟨by decide, by decide⟩ rfl rfl (Nat.le_of_ble_eq_true rfl) ⟨Nat.le_refl _, Nat.le_refl _⟩ dM_test_103 (fun r u H locs hw hP hD hS => ?_)
              obtain ⟨g148, rfl, rfl⟩ | ⟨g149, rfl, rfl⟩ := hw
              · refine lv_icmp_eq (tgt := 113) S.1 S.2.1 dM_test_106 (by decide) (fun g150 => absurd g150 (by decide)) (fun _ => ?_)
                refine lv_iconst (v := 1) S.1 S.2.1 dM_test_109 (by decide) ?_
                refine lv_goto (tgt := 114) S.1 S.2.1 dM_test_110 (by decide) ?_
                refine cl_v (As := [.int 1]) (rest := []) S hN hK hP hD hS hA hl.1 (c_M_skip l D a _ pc ac lk mq ma mb ir sw io dl ha rd 26 md kf kb cn pf co ou 1) k_M_79 (rc_M hK hP) ⟨by decide, by decide⟩ rfl rfl (Nat.le_of_ble_eq_true rfl) ⟨Nat.le_refl _, Nat.le_refl _⟩ dM_test_114 (fun u H locs hw hP hD hS => ?_)
                obtain ⟨g151, rfl⟩ | ⟨g152, rfl⟩ := hw
                · exact absurd g151 (by decide)
                · refine lv_bipush (v := 27) S.1 S.2.1 dM_test_117 (by decide) ?_
                  exact rt_i S hr hk hK hP hD hS ((by simp [mu26, g2, g76, g86, g118, g128, g139, g148, g152])) dM_test_119
              · refine lv_icmp_eq (tgt := 113) S.1 S.2.1 dM_test_106 (by decide) (fun _ => ?_) (fun g153 => absurd (by decide) g153)
                refine lv_iconst (v := 0) S.1 S.2.1 dM_test_113 (by decide) ?_
                refine cl_v (As := [.int 0]) (rest := []) S hN hK hP hD hS hA hl.1 (c_M_skip l D a _ pc ac lk mq ma mb ir sw io dl ha rd 26 md kf kb cn pf co ou 0) k_M_79 (rc_M hK hP) ⟨by decide, by decide⟩ rfl rfl (Nat.le_of_ble_eq_true rfl) ⟨Nat.le_refl _, Nat.le_refl _⟩ dM_test_114 (fun u H locs hw hP hD hS => ?_)
                obtain ⟨g154, rfl⟩ | ⟨g155, rfl⟩ := hw
                · refine lv_bipush (v := 27) S.1 S.2.1 dM_test_117 (by decide) ?_
                  exact rt_i S hr hk hK hP hD hS ((by simp [mu26, g2, g76, g86, g118, g128, g139, g149, g154])) dM_test_119
                · exact absurd g155 (by decide)

set_option maxHeartbeats 4000000 in
set_option maxRecDepth 100000 in
theorem c_M_test_27 (l : Launch) (D : va_G) (a : AR) (sz : Nat) (pc ac lk mq ma mb ir sw io dl ha rd md kf kb cn pf : Int32) (co ou : Nat → Int32) (I : Iv a.2.2.2.2.2 (pc, ac, lk, mq, ma, mb, ir, sw, io, dl, ha, rd, 27, md, kf, kb, cn, pf, co, ou)) : MI l D (wr a) (tr a) sz yM_test cM_test 3 (some .int) 1 [.ref a.1] (pc, ac, lk, mq, ma, mb, ir, sw, io, dl, ha, rd, 27, md, kf, kb, cn, pf, co, ou) (fun r u => (r, u) = mu27 (pc, ac, lk, mq, ma, mb, ir, sw, io, dl, ha, rd, 27, md, kf, kb, cn, pf, co, ou)) := by
  refine en_i RM rfl (by decide) (Nat.le_of_ble_eq_true rfl) ?_
  intro p e s m below meth c A ls S hr hk hA hN hK hP hD hS hl
  have hl : lv_has ls 3 [(0, .ref a.1)] := hl
  obtain ⟨⟨hpc, hac, hmq, hma, hmb, hir, hsw⟩, hlk, ⟨hio, hdl, hha, hrd, hkf, hpf⟩, hsn, hlt, hkb, hcn, hn, hco⟩ := I
  refine lv_aload_n S.1 S.2.1 dM_test_0 rfl (lv_at hl 0 rfl) ?_
  refine g_M_M_at S hK hP dM_test_1 ?_
  refine lv_tableIn (off := 116) (tgt := 120) S.1 S.2.1 dM_test_4 (by decide +kernel) (by decide +kernel) (by decide +kernel) (by decide) ?_
  refine lv_aload_n S.1 S.2.1 dM_test_120 rfl (lv_at hl 0 rfl) ?_
  refine lv_aload_n S.1 S.2.1 dM_test_121 rfl (lv_at hl 0 rfl) ?_
  refine lv_sipush (v := 128) S.1 S.2.1 dM_test_122 (by decide) ?_
  refine cl_i (As := [.int 128]) (rest := [.ref a.1]) S hN hK hP hD hS hA hl.1 (c_M_bit l D a _ pc ac lk mq ma mb ir sw io dl ha rd 27 md kf kb cn pf co ou 128) k_M_83 (rc_M hK hP) ⟨by decide, by decide⟩ rfl rfl (Nat.le_of_ble_eq_true rfl) ⟨Nat.le_refl _, Nat.le_refl _⟩ dM_test_125 (fun r u H locs hw hP hD hS => ?_)
  obtain ⟨g1, rfl, rfl⟩ | ⟨g2, rfl, rfl⟩ := hw
  · refine lv_if_eq (tgt := 135) S.1 S.2.1 dM_test_128 (by decide) (fun _ => ?_) (fun g3 => absurd (by decide) g3)
    refine lv_aload_n S.1 S.2.1 dM_test_135 rfl (lv_at hl 0 rfl) ?_
    refine g_M_M_ac S hK hP dM_test_136 ?_
    refine p_M_M_ac S hK hP hD hS dM_test_139 (fun H locs hP hD hS => ?_)
    refine lv_aload_n S.1 S.2.1 dM_test_142 rfl (lv_at hl 0 rfl) ?_
    refine lv_bipush (v := 6) S.1 S.2.1 dM_test_143 (by decide) ?_
    refine cl_i (As := [.int 6]) (rest := []) S hN hK hP hD hS hA hl.1 (c_M_bit l D a _ pc ac lk mq ma mb ir sw io dl ha rd 27 md kf kb cn pf co ou 6) k_M_83 (rc_M hK hP) ⟨by decide, by decide⟩ rfl rfl (Nat.le_of_ble_eq_true rfl) ⟨Nat.le_refl _, Nat.le_refl _⟩ dM_test_145 (fun r u H locs hw hP hD hS => ?_)
    obtain ⟨g4, rfl, rfl⟩ | ⟨g5, rfl, rfl⟩ := hw
    · refine lv_if_eq (tgt := 156) S.1 S.2.1 dM_test_148 (by decide) (fun _ => ?_) (fun g6 => absurd (by decide) g6)
      refine lv_iconst (v := 0) S.1 S.2.1 dM_test_156 (by decide) ?_
      exact rt_i S hr hk hK hP hD hS ((by simp [mu27, g1, g4])) dM_test_157
    · refine lv_if_eq (tgt := 156) S.1 S.2.1 dM_test_148 (by decide) (fun g7 => absurd g7 (by decide)) (fun _ => ?_)
      refine lv_bipush (v := 28) S.1 S.2.1 dM_test_151 (by decide) ?_
      refine lv_goto (tgt := 157) S.1 S.2.1 dM_test_153 (by decide) ?_
      exact rt_i S hr hk hK hP hD hS ((by simp [mu27, g1, g5])) dM_test_157
  · refine lv_if_eq (tgt := 135) S.1 S.2.1 dM_test_128 (by decide) (fun g8 => absurd g8 (by decide)) (fun _ => ?_)
    refine lv_iconst (v := 0) S.1 S.2.1 dM_test_131 (by decide) ?_
    refine lv_goto (tgt := 139) S.1 S.2.1 dM_test_132 (by decide) ?_
    refine p_M_M_ac S hK hP hD hS dM_test_139 (fun H locs hP hD hS => ?_)
    refine lv_aload_n S.1 S.2.1 dM_test_142 rfl (lv_at hl 0 rfl) ?_
    refine lv_bipush (v := 6) S.1 S.2.1 dM_test_143 (by decide) ?_
    refine cl_i (As := [.int 6]) (rest := []) S hN hK hP hD hS hA hl.1 (c_M_bit l D a _ pc 0 lk mq ma mb ir sw io dl ha rd 27 md kf kb cn pf co ou 6) k_M_83 (rc_M hK hP) ⟨by decide, by decide⟩ rfl rfl (Nat.le_of_ble_eq_true rfl) ⟨Nat.le_refl _, Nat.le_refl _⟩ dM_test_145 (fun r u H locs hw hP hD hS => ?_)
    obtain ⟨g9, rfl, rfl⟩ | ⟨g10, rfl, rfl⟩ := hw
    · refine lv_if_eq (tgt := 156) S.1 S.2.1 dM_test_148 (by decide) (fun _ => ?_) (fun g11 => absurd (by decide) g11)
      refine lv_iconst (v := 0) S.1 S.2.1 dM_test_156 (by decide) ?_
      exact rt_i S hr hk hK hP hD hS ((by simp [mu27, g2, g9])) dM_test_157
    · refine lv_if_eq (tgt := 156) S.1 S.2.1 dM_test_148 (by decide) (fun g12 => absurd g12 (by decide)) (fun _ => ?_)
      refine lv_bipush (v := 28) S.1 S.2.1 dM_test_151 (by decide) ?_
      refine lv_goto (tgt := 157) S.1 S.2.1 dM_test_153 (by decide) ?_
      exact rt_i S hr hk hK hP hD hS ((by simp [mu27, g2, g10])) dM_test_157

set_option maxHeartbeats 4000000 in
set_option maxRecDepth 100000 in
theorem c_M_test_30 (l : Launch) (D : va_G) (a : AR) (sz : Nat) (pc ac lk mq ma mb ir sw io dl ha rd md kf kb cn pf : Int32) (co ou : Nat → Int32) (I : Iv a.2.2.2.2.2 (pc, ac, lk, mq, ma, mb, ir, sw, io, dl, ha, rd, 30, md, kf, kb, cn, pf, co, ou)) : MI l D (wr a) (tr a) sz yM_test cM_test 3 (some .int) 1 [.ref a.1] (pc, ac, lk, mq, ma, mb, ir, sw, io, dl, ha, rd, 30, md, kf, kb, cn, pf, co, ou) (fun r u => (r, u) = mu30 (pc, ac, lk, mq, ma, mb, ir, sw, io, dl, ha, rd, 30, md, kf, kb, cn, pf, co, ou)) := by
  refine en_i RM rfl (by decide) (Nat.le_of_ble_eq_true rfl) ?_
  intro p e s m below meth c A ls S hr hk hA hN hK hP hD hS hl
  have hl : lv_has ls 3 [(0, .ref a.1)] := hl
  obtain ⟨⟨hpc, hac, hmq, hma, hmb, hir, hsw⟩, hlk, ⟨hio, hdl, hha, hrd, hkf, hpf⟩, hsn, hlt, hkb, hcn, hn, hco⟩ := I
  refine lv_aload_n S.1 S.2.1 dM_test_0 rfl (lv_at hl 0 rfl) ?_
  refine g_M_M_at S hK hP dM_test_1 ?_
  refine lv_tableIn (off := 208) (tgt := 212) S.1 S.2.1 dM_test_4 (by decide +kernel) (by decide +kernel) (by decide +kernel) (by decide) ?_
  refine lv_aload_n S.1 S.2.1 dM_test_212 rfl (lv_at hl 0 rfl) ?_
  refine lv_aload_n S.1 S.2.1 dM_test_213 rfl (lv_at hl 0 rfl) ?_
  refine lv_sipush (v := 128) S.1 S.2.1 dM_test_214 (by decide) ?_
  refine cl_i (As := [.int 128]) (rest := [.ref a.1]) S hN hK hP hD hS hA hl.1 (c_M_bit l D a _ pc ac lk mq ma mb ir sw io dl ha rd 30 md kf kb cn pf co ou 128) k_M_83 (rc_M hK hP) ⟨by decide, by decide⟩ rfl rfl (Nat.le_of_ble_eq_true rfl) ⟨Nat.le_refl _, Nat.le_refl _⟩ dM_test_217 (fun r u H locs hw hP hD hS => ?_)
  obtain ⟨g1, rfl, rfl⟩ | ⟨g2, rfl, rfl⟩ := hw
  · refine lv_if_eq (tgt := 227) S.1 S.2.1 dM_test_220 (by decide) (fun _ => ?_) (fun g3 => absurd (by decide) g3)
    refine lv_aload_n S.1 S.2.1 dM_test_227 rfl (lv_at hl 0 rfl) ?_
    refine g_M_M_ac S hK hP dM_test_228 ?_
    refine p_M_M_ac S hK hP hD hS dM_test_231 (fun H locs hP hD hS => ?_)
    refine lv_bipush (v := 31) S.1 S.2.1 dM_test_234 (by decide) ?_
    exact rt_i S hr hk hK hP hD hS ((by simp [mu30, g1])) dM_test_236
  · refine lv_if_eq (tgt := 227) S.1 S.2.1 dM_test_220 (by decide) (fun g4 => absurd g4 (by decide)) (fun _ => ?_)
    refine lv_iconst (v := 0) S.1 S.2.1 dM_test_223 (by decide) ?_
    refine lv_goto (tgt := 231) S.1 S.2.1 dM_test_224 (by decide) ?_
    refine p_M_M_ac S hK hP hD hS dM_test_231 (fun H locs hP hD hS => ?_)
    refine lv_bipush (v := 31) S.1 S.2.1 dM_test_234 (by decide) ?_
    exact rt_i S hr hk hK hP hD hS ((by simp [mu30, g2])) dM_test_236

set_option maxHeartbeats 4000000 in
set_option maxRecDepth 100000 in
theorem c_M_test_31 (l : Launch) (D : va_G) (a : AR) (sz : Nat) (pc ac lk mq ma mb ir sw io dl ha rd md kf kb cn pf : Int32) (co ou : Nat → Int32) (I : Iv a.2.2.2.2.2 (pc, ac, lk, mq, ma, mb, ir, sw, io, dl, ha, rd, 31, md, kf, kb, cn, pf, co, ou)) : MI l D (wr a) (tr a) sz yM_test cM_test 3 (some .int) 1 [.ref a.1] (pc, ac, lk, mq, ma, mb, ir, sw, io, dl, ha, rd, 31, md, kf, kb, cn, pf, co, ou) (fun r u => (r, u) = mu31 (pc, ac, lk, mq, ma, mb, ir, sw, io, dl, ha, rd, 31, md, kf, kb, cn, pf, co, ou)) := by
  refine en_i RM rfl (by decide) (Nat.le_of_ble_eq_true rfl) ?_
  intro p e s m below meth c A ls S hr hk hA hN hK hP hD hS hl
  have hl : lv_has ls 3 [(0, .ref a.1)] := hl
  obtain ⟨⟨hpc, hac, hmq, hma, hmb, hir, hsw⟩, hlk, ⟨hio, hdl, hha, hrd, hkf, hpf⟩, hsn, hlt, hkb, hcn, hn, hco⟩ := I
  refine lv_aload_n S.1 S.2.1 dM_test_0 rfl (lv_at hl 0 rfl) ?_
  refine g_M_M_at S hK hP dM_test_1 ?_
  refine lv_tableOut (tgt := 237) S.1 S.2.1 dM_test_4 (by decide +kernel) (by decide) ?_
  refine lv_aload_n S.1 S.2.1 dM_test_237 rfl (lv_at hl 0 rfl) ?_
  refine g_M_M_mq S hK hP dM_test_238 ?_
  refine lv_istore_n S.1 S.2.1 dM_test_241 rfl hl (by decide) rfl (fun ls hl => ?_)
  have hl : lv_has ls 3 [(2, .int mq), (0, .ref a.1)] := hl
  refine lv_aload_n S.1 S.2.1 dM_test_242 rfl (lv_at hl 1 rfl) ?_
  refine lv_aload_n S.1 S.2.1 dM_test_243 rfl (lv_at hl 1 rfl) ?_
  refine lv_bipush (v := 16) S.1 S.2.1 dM_test_244 (by decide) ?_
  refine cl_i (As := [.int 16]) (rest := [.ref a.1]) S hN hK hP hD hS hA hl.1 (c_M_bit l D a _ pc ac lk mq ma mb ir sw io dl ha rd 31 md kf kb cn pf co ou 16) k_M_83 (rc_M hK hP) ⟨by decide, by decide⟩ rfl rfl (Nat.le_of_ble_eq_true rfl) ⟨Nat.le_refl _, Nat.le_refl _⟩ dM_test_246 (fun r u H locs hw hP hD hS => ?_)
  obtain ⟨g1, rfl, rfl⟩ | ⟨g2, rfl, rfl⟩ := hw
  · refine lv_if_eq (tgt := 259) S.1 S.2.1 dM_test_249 (by decide) (fun _ => ?_) (fun g3 => absurd (by decide) g3)
    refine lv_aload_n S.1 S.2.1 dM_test_259 rfl (lv_at hl 1 rfl) ?_
    refine g_M_M_mq S hK hP dM_test_260 ?_
    refine p_M_M_mq S hK hP hD hS dM_test_263 (fun H locs hP hD hS => ?_)
    refine lv_aload_n S.1 S.2.1 dM_test_266 rfl (lv_at hl 1 rfl) ?_
    refine lv_aload_n S.1 S.2.1 dM_test_267 rfl (lv_at hl 1 rfl) ?_
    refine lv_bipush (v := 16) S.1 S.2.1 dM_test_268 (by decide) ?_
    refine cl_i (As := [.int 16]) (rest := [.ref a.1]) S hN hK hP hD hS hA hl.1 (c_M_bit l D a _ pc ac lk mq ma mb ir sw io dl ha rd 31 md kf kb cn pf co ou 16) k_M_83 (rc_M hK hP) ⟨by decide, by decide⟩ rfl rfl (Nat.le_of_ble_eq_true rfl) ⟨Nat.le_refl _, Nat.le_refl _⟩ dM_test_270 (fun r u H locs hw hP hD hS => ?_)
    obtain ⟨g4, rfl, rfl⟩ | ⟨g5, rfl, rfl⟩ := hw
    · refine lv_if_eq (tgt := 293) S.1 S.2.1 dM_test_273 (by decide) (fun _ => ?_) (fun g6 => absurd (by decide) g6)
      refine lv_aload_n S.1 S.2.1 dM_test_293 rfl (lv_at hl 1 rfl) ?_
      refine lv_bipush (v := 64) S.1 S.2.1 dM_test_294 (by decide) ?_
      refine cl_i (As := [.int 64]) (rest := [.ref a.1]) S hN hK hP hD hS hA hl.1 (c_M_bit l D a _ pc ac lk mq ma mb ir sw io dl ha rd 31 md kf kb cn pf co ou 64) k_M_83 (rc_M hK hP) ⟨by decide, by decide⟩ rfl rfl (Nat.le_of_ble_eq_true rfl) ⟨Nat.le_refl _, Nat.le_refl _⟩ dM_test_296 (fun r u H locs hw hP hD hS => ?_)
      obtain ⟨g7, rfl, rfl⟩ | ⟨g8, rfl, rfl⟩ := hw
      · refine lv_if_eq (tgt := 311) S.1 S.2.1 dM_test_299 (by decide) (fun _ => ?_) (fun g9 => absurd (by decide) g9)
        refine lv_aload_n S.1 S.2.1 dM_test_311 rfl (lv_at hl 1 rfl) ?_
        refine g_M_M_ac S hK hP dM_test_312 ?_
        refine p_M_M_ac S hK hP hD hS dM_test_315 (fun H locs hP hD hS => ?_)
        refine lv_iconst (v := 0) S.1 S.2.1 dM_test_318 (by decide) ?_
        exact rt_i S hr hk hK hP hD hS ((by simp [mu31, g1, g4, g7])) dM_test_319
      · refine lv_if_eq (tgt := 311) S.1 S.2.1 dM_test_299 (by decide) (fun g10 => absurd g10 (by decide)) (fun _ => ?_)
        refine lv_aload_n S.1 S.2.1 dM_test_302 rfl (lv_at hl 1 rfl) ?_
        refine g_M_M_ac S hK hP dM_test_303 ?_
        refine lv_iload_n S.1 S.2.1 dM_test_306 rfl (lv_at hl 0 rfl) ?_
        refine lv_ior S.1 S.2.1 dM_test_307 ?_
        refine lv_goto (tgt := 315) S.1 S.2.1 dM_test_308 (by decide) ?_
        refine p_M_M_ac S hK hP hD hS dM_test_315 (fun H locs hP hD hS => ?_)
        refine lv_iconst (v := 0) S.1 S.2.1 dM_test_318 (by decide) ?_
        exact rt_i S hr hk hK hP hD hS ((by simp [mu31, g1, g4, g8])) dM_test_319
    · first | exact absurd g5 g1 | exact absurd g1 g5
  · refine lv_if_eq (tgt := 259) S.1 S.2.1 dM_test_249 (by decide) (fun g11 => absurd g11 (by decide)) (fun _ => ?_)
    refine lv_aload_n S.1 S.2.1 dM_test_252 rfl (lv_at hl 1 rfl) ?_
    refine g_M_M_ac S hK hP dM_test_253 ?_
    refine lv_goto (tgt := 263) S.1 S.2.1 dM_test_256 (by decide) ?_
    refine p_M_M_mq S hK hP hD hS dM_test_263 (fun H locs hP hD hS => ?_)
    refine lv_aload_n S.1 S.2.1 dM_test_266 rfl (lv_at hl 1 rfl) ?_
    refine lv_aload_n S.1 S.2.1 dM_test_267 rfl (lv_at hl 1 rfl) ?_
    refine lv_bipush (v := 16) S.1 S.2.1 dM_test_268 (by decide) ?_
    refine cl_i (As := [.int 16]) (rest := [.ref a.1]) S hN hK hP hD hS hA hl.1 (c_M_bit l D a _ pc ac lk ac ma mb ir sw io dl ha rd 31 md kf kb cn pf co ou 16) k_M_83 (rc_M hK hP) ⟨by decide, by decide⟩ rfl rfl (Nat.le_of_ble_eq_true rfl) ⟨Nat.le_refl _, Nat.le_refl _⟩ dM_test_270 (fun r u H locs hw hP hD hS => ?_)
    obtain ⟨g12, rfl, rfl⟩ | ⟨g13, rfl, rfl⟩ := hw
    · first | exact absurd g12 g2 | exact absurd g2 g12
    · refine lv_if_eq (tgt := 293) S.1 S.2.1 dM_test_273 (by decide) (fun g14 => absurd g14 (by decide)) (fun _ => ?_)
      refine lv_aload_n S.1 S.2.1 dM_test_276 rfl (lv_at hl 1 rfl) ?_
      refine lv_bipush (v := 64) S.1 S.2.1 dM_test_277 (by decide) ?_
      refine cl_i (As := [.int 64]) (rest := [.ref a.1]) S hN hK hP hD hS hA hl.1 (c_M_bit l D a _ pc ac lk ac ma mb ir sw io dl ha rd 31 md kf kb cn pf co ou 64) k_M_83 (rc_M hK hP) ⟨by decide, by decide⟩ rfl rfl (Nat.le_of_ble_eq_true rfl) ⟨Nat.le_refl _, Nat.le_refl _⟩ dM_test_279 (fun r u H locs hw hP hD hS => ?_)
      obtain ⟨g15, rfl, rfl⟩ | ⟨g16, rfl, rfl⟩ := hw
      · refine lv_if_eq (tgt := 289) S.1 S.2.1 dM_test_282 (by decide) (fun _ => ?_) (fun g17 => absurd (by decide) g17)
        refine lv_iconst (v := 0) S.1 S.2.1 dM_test_289 (by decide) ?_
        refine lv_goto (tgt := 315) S.1 S.2.1 dM_test_290 (by decide) ?_
        refine p_M_M_ac S hK hP hD hS dM_test_315 (fun H locs hP hD hS => ?_)
        refine lv_iconst (v := 0) S.1 S.2.1 dM_test_318 (by decide) ?_
        exact rt_i S hr hk hK hP hD hS ((by simp [mu31, g2, g13, g15])) dM_test_319
      · refine lv_if_eq (tgt := 289) S.1 S.2.1 dM_test_282 (by decide) (fun g18 => absurd g18 (by decide)) (fun _ => ?_)
        refine lv_iload_n S.1 S.2.1 dM_test_285 rfl (lv_at hl 0 rfl) ?_
        refine lv_goto (tgt := 315) S.1 S.2.1 dM_test_286 (by decide) ?_
        refine p_M_M_ac S hK hP hD hS dM_test_315 (fun H locs hP hD hS => ?_)
        refine lv_iconst (v := 0) S.1 S.2.1 dM_test_318 (by decide) ?_
        exact rt_i S hr hk hK hP hD hS ((by simp [mu31, g2, g13, g16])) dM_test_319

set_option maxHeartbeats 4000000 in
set_option maxRecDepth 100000 in
theorem c_M_test_28 (l : Launch) (D : va_G) (a : AR) (sz : Nat) (pc ac lk mq ma mb ir sw io dl ha rd md kf kb cn pf : Int32) (co ou : Nat → Int32) (I : Iv a.2.2.2.2.2 (pc, ac, lk, mq, ma, mb, ir, sw, io, dl, ha, rd, 28, md, kf, kb, cn, pf, co, ou)) : MI l D (wr a) (tr a) sz yM_test cM_test 3 (some .int) 1 [.ref a.1] (pc, ac, lk, mq, ma, mb, ir, sw, io, dl, ha, rd, 28, md, kf, kb, cn, pf, co, ou) (fun r u => (r, u) = mu28 (pc, ac, lk, mq, ma, mb, ir, sw, io, dl, ha, rd, 28, md, kf, kb, cn, pf, co, ou)) := by
  refine en_i RM rfl (by decide) (Nat.le_of_ble_eq_true rfl) ?_
  intro p e s m below meth c A ls S hr hk hA hN hK hP hD hS hl
  have hl : lv_has ls 3 [(0, .ref a.1)] := hl
  obtain ⟨⟨hpc, hac, hmq, hma, hmb, hir, hsw⟩, hlk, ⟨hio, hdl, hha, hrd, hkf, hpf⟩, hsn, hlt, hkb, hcn, hn, hco⟩ := I
  refine lv_aload_n S.1 S.2.1 dM_test_0 rfl (lv_at hl 0 rfl) ?_
  refine g_M_M_at S hK hP dM_test_1 ?_
  refine lv_tableIn (off := 154) (tgt := 158) S.1 S.2.1 dM_test_4 (by decide +kernel) (by decide +kernel) (by decide +kernel) (by decide) ?_
  refine lv_aload_n S.1 S.2.1 dM_test_158 rfl (lv_at hl 0 rfl) ?_
  refine lv_aload_n S.1 S.2.1 dM_test_159 rfl (lv_at hl 0 rfl) ?_
  refine lv_iconst (v := 4) S.1 S.2.1 dM_test_160 (by decide) ?_
  refine cl_i (As := [.int 4]) (rest := [.ref a.1]) S hN hK hP hD hS hA hl.1 (c_M_bit l D a _ pc ac lk mq ma mb ir sw io dl ha rd 28 md kf kb cn pf co ou 4) k_M_83 (rc_M hK hP) ⟨by decide, by decide⟩ rfl rfl (Nat.le_of_ble_eq_true rfl) ⟨Nat.le_refl _, Nat.le_refl _⟩ dM_test_161 (fun r u H locs hw hP hD hS => ?_)
  obtain ⟨g1, rfl, rfl⟩ | ⟨g2, rfl, rfl⟩ := hw
  · refine lv_if_eq (tgt := 179) S.1 S.2.1 dM_test_164 (by decide) (fun _ => ?_) (fun g3 => absurd (by decide) g3)
    refine lv_aload_n S.1 S.2.1 dM_test_179 rfl (lv_at hl 0 rfl) ?_
    refine g_M_M_ac S hK hP dM_test_180 ?_
    refine p_M_M_ac S hK hP hD hS dM_test_183 (fun H locs hP hD hS => ?_)
    refine lv_aload_n S.1 S.2.1 dM_test_186 rfl (lv_at hl 0 rfl) ?_
    refine lv_aload_n S.1 S.2.1 dM_test_187 rfl (lv_at hl 0 rfl) ?_
    refine g_M_M_halted S hK hP dM_test_188 ?_
    refine lv_if_ne (tgt := 202) S.1 S.2.1 dM_test_191 (by decide) (fun g4 => ?_) (fun g4 => ?_)
    · refine lv_iconst (v := 1) S.1 S.2.1 dM_test_202 (by decide) ?_
      refine lv_goto (tgt := 207) S.1 S.2.1 dM_test_203 (by decide) ?_
      refine p_M_M_halted S hK hP hD hS rfl rfl dM_test_207 (fun H locs hP hD hS => ?_)
      refine lv_iconst (v := 0) S.1 S.2.1 dM_test_210 (by decide) ?_
      exact rt_i S hr hk hK hP hD hS ((by simp [mu28, g1, hha.resolve_left g4])) dM_test_211
    · refine lv_aload_n S.1 S.2.1 dM_test_194 rfl (lv_at hl 0 rfl) ?_
      refine lv_iconst (v := 2) S.1 S.2.1 dM_test_195 (by decide) ?_
      refine cl_i (As := [.int 2]) (rest := [.ref a.1]) S hN hK hP hD hS hA hl.1 (c_M_bit l D a _ pc ac lk mq ma mb ir sw io dl ha rd 28 md kf kb cn pf co ou 2) k_M_83 (rc_M hK hP) ⟨by decide, by decide⟩ rfl rfl (Nat.le_of_ble_eq_true rfl) ⟨Nat.le_refl _, Nat.le_refl _⟩ dM_test_196 (fun r u H locs hw hP hD hS => ?_)
      obtain ⟨g5, rfl, rfl⟩ | ⟨g6, rfl, rfl⟩ := hw
      · refine lv_if_eq (tgt := 206) S.1 S.2.1 dM_test_199 (by decide) (fun _ => ?_) (fun g7 => absurd (by decide) g7)
        refine lv_iconst (v := 0) S.1 S.2.1 dM_test_206 (by decide) ?_
        refine p_M_M_halted S hK hP hD hS rfl rfl dM_test_207 (fun H locs hP hD hS => ?_)
        refine lv_iconst (v := 0) S.1 S.2.1 dM_test_210 (by decide) ?_
        exact rt_i S hr hk hK hP hD hS ((by simp [mu28, g1, g4, g5])) dM_test_211
      · refine lv_if_eq (tgt := 206) S.1 S.2.1 dM_test_199 (by decide) (fun g8 => absurd g8 (by decide)) (fun _ => ?_)
        refine lv_iconst (v := 1) S.1 S.2.1 dM_test_202 (by decide) ?_
        refine lv_goto (tgt := 207) S.1 S.2.1 dM_test_203 (by decide) ?_
        refine p_M_M_halted S hK hP hD hS rfl rfl dM_test_207 (fun H locs hP hD hS => ?_)
        refine lv_iconst (v := 0) S.1 S.2.1 dM_test_210 (by decide) ?_
        exact rt_i S hr hk hK hP hD hS ((by simp [mu28, g1, g4, g6])) dM_test_211
  · refine lv_if_eq (tgt := 179) S.1 S.2.1 dM_test_164 (by decide) (fun g9 => absurd g9 (by decide)) (fun _ => ?_)
    refine lv_aload_n S.1 S.2.1 dM_test_167 rfl (lv_at hl 0 rfl) ?_
    refine g_M_M_ac S hK hP dM_test_168 ?_
    refine lv_aload_n S.1 S.2.1 dM_test_171 rfl (lv_at hl 0 rfl) ?_
    refine g_M_M_switches S hK hP dM_test_172 ?_
    refine lv_ior S.1 S.2.1 dM_test_175 ?_
    refine lv_goto (tgt := 183) S.1 S.2.1 dM_test_176 (by decide) ?_
    refine p_M_M_ac S hK hP hD hS dM_test_183 (fun H locs hP hD hS => ?_)
    refine lv_aload_n S.1 S.2.1 dM_test_186 rfl (lv_at hl 0 rfl) ?_
    refine lv_aload_n S.1 S.2.1 dM_test_187 rfl (lv_at hl 0 rfl) ?_
    refine g_M_M_halted S hK hP dM_test_188 ?_
    refine lv_if_ne (tgt := 202) S.1 S.2.1 dM_test_191 (by decide) (fun g10 => ?_) (fun g10 => ?_)
    · refine lv_iconst (v := 1) S.1 S.2.1 dM_test_202 (by decide) ?_
      refine lv_goto (tgt := 207) S.1 S.2.1 dM_test_203 (by decide) ?_
      refine p_M_M_halted S hK hP hD hS rfl rfl dM_test_207 (fun H locs hP hD hS => ?_)
      refine lv_iconst (v := 0) S.1 S.2.1 dM_test_210 (by decide) ?_
      exact rt_i S hr hk hK hP hD hS ((by simp [mu28, g2, hha.resolve_left g10])) dM_test_211
    · refine lv_aload_n S.1 S.2.1 dM_test_194 rfl (lv_at hl 0 rfl) ?_
      refine lv_iconst (v := 2) S.1 S.2.1 dM_test_195 (by decide) ?_
      refine cl_i (As := [.int 2]) (rest := [.ref a.1]) S hN hK hP hD hS hA hl.1 (c_M_bit l D a _ pc (ac ||| sw) lk mq ma mb ir sw io dl ha rd 28 md kf kb cn pf co ou 2) k_M_83 (rc_M hK hP) ⟨by decide, by decide⟩ rfl rfl (Nat.le_of_ble_eq_true rfl) ⟨Nat.le_refl _, Nat.le_refl _⟩ dM_test_196 (fun r u H locs hw hP hD hS => ?_)
      obtain ⟨g11, rfl, rfl⟩ | ⟨g12, rfl, rfl⟩ := hw
      · refine lv_if_eq (tgt := 206) S.1 S.2.1 dM_test_199 (by decide) (fun _ => ?_) (fun g13 => absurd (by decide) g13)
        refine lv_iconst (v := 0) S.1 S.2.1 dM_test_206 (by decide) ?_
        refine p_M_M_halted S hK hP hD hS rfl rfl dM_test_207 (fun H locs hP hD hS => ?_)
        refine lv_iconst (v := 0) S.1 S.2.1 dM_test_210 (by decide) ?_
        exact rt_i S hr hk hK hP hD hS ((by simp [mu28, g2, g10, g11])) dM_test_211
      · refine lv_if_eq (tgt := 206) S.1 S.2.1 dM_test_199 (by decide) (fun g14 => absurd g14 (by decide)) (fun _ => ?_)
        refine lv_iconst (v := 1) S.1 S.2.1 dM_test_202 (by decide) ?_
        refine lv_goto (tgt := 207) S.1 S.2.1 dM_test_203 (by decide) ?_
        refine p_M_M_halted S hK hP hD hS rfl rfl dM_test_207 (fun H locs hP hD hS => ?_)
        refine lv_iconst (v := 0) S.1 S.2.1 dM_test_210 (by decide) ?_
        exact rt_i S hr hk hK hP hD hS ((by simp [mu28, g2, g10, g12])) dM_test_211

set_option maxHeartbeats 4000000 in
set_option maxRecDepth 100000 in
theorem c_M_device_32 (l : Launch) (D : va_G) (a : AR) (sz : Nat) (pc ac lk mq ma mb ir sw io dl ha rd md kf kb cn pf : Int32) (co ou : Nat → Int32) (I : Iv a.2.2.2.2.2 (pc, ac, lk, mq, ma, mb, ir, sw, io, dl, ha, rd, 32, md, kf, kb, cn, pf, co, ou)) : MI l D (wr a) (tr a) sz yM_device cM_device 2 (some .int) 1 [.ref a.1] (pc, ac, lk, mq, ma, mb, ir, sw, io, dl, ha, rd, 32, md, kf, kb, cn, pf, co, ou) (fun r u => (r, u) = mu32 (pc, ac, lk, mq, ma, mb, ir, sw, io, dl, ha, rd, 32, md, kf, kb, cn, pf, co, ou)) := by
  refine en_i RM rfl (by decide) (Nat.le_of_ble_eq_true rfl) ?_
  intro p e s m below meth c A ls S hr hk hA hN hK hP hD hS hl
  have hl : lv_has ls 2 [(0, .ref a.1)] := hl
  obtain ⟨⟨hpc, hac, hmq, hma, hmb, hir, hsw⟩, hlk, ⟨hio, hdl, hha, hrd, hkf, hpf⟩, hsn, hlt, hkb, hcn, hn, hco⟩ := I
  refine lv_aload_n S.1 S.2.1 dM_device_0 rfl (lv_at hl 0 rfl) ?_
  refine g_M_M_at S hK hP dM_device_1 ?_
  refine lv_tableIn (off := 52) (tgt := 56) S.1 S.2.1 dM_device_4 (by decide +kernel) (by decide +kernel) (by decide +kernel) (by decide) ?_
  refine lv_aload_n S.1 S.2.1 dM_device_56 rfl (lv_at hl 0 rfl) ?_
  refine g_M_M_ir S hK hP dM_device_57 ?_
  refine lv_bipush (v := 8) S.1 S.2.1 dM_device_60 (by decide) ?_
  refine lv_idiv S.1 S.2.1 dM_device_62 (by decide) ?_
  refine lv_bipush (v := 63) S.1 S.2.1 dM_device_63 (by decide) ?_
  refine lv_iand S.1 S.2.1 dM_device_65 ?_
  refine lv_istore_n S.1 S.2.1 dM_device_66 rfl hl (by decide) rfl (fun ls hl => ?_)
  have hl : lv_has ls 2 [(1, .int ((ir / 8) &&& 63)), (0, .ref a.1)] := hl
  refine lv_iload_n S.1 S.2.1 dM_device_67 rfl (lv_at hl 0 rfl) ?_
  refine lv_if_ne (tgt := 76) S.1 S.2.1 dM_device_68 (by decide) (fun g1 => ?_) (fun g1 => ?_)
  · refine lv_iload_n S.1 S.2.1 dM_device_76 rfl (lv_at hl 0 rfl) ?_
    refine lv_iconst (v := 3) S.1 S.2.1 dM_device_77 (by decide) ?_
    refine lv_icmp_ne (tgt := 86) S.1 S.2.1 dM_device_78 (by decide) (fun g2 => ?_) (fun g2 => ?_)
    · refine lv_iload_n S.1 S.2.1 dM_device_86 rfl (lv_at hl 0 rfl) ?_
      refine lv_iconst (v := 4) S.1 S.2.1 dM_device_87 (by decide) ?_
      refine lv_icmp_ne (tgt := 96) S.1 S.2.1 dM_device_88 (by decide) (fun g3 => ?_) (fun g3 => ?_)
      · refine lv_iconst (v := 0) S.1 S.2.1 dM_device_96 (by decide) ?_
        exact rt_i S hr hk hK hP hD hS ((by simp [mu32, hma, hmb, g1, g2, g3])) dM_device_97
      · refine lv_bipush (v := 36) S.1 S.2.1 dM_device_91 (by decide) ?_
        refine lv_goto (tgt := 97) S.1 S.2.1 dM_device_93 (by decide) ?_
        exact rt_i S hr hk hK hP hD hS ((by simp [mu32, hma, hmb, g1, g2, g3])) dM_device_97
    · refine lv_bipush (v := 34) S.1 S.2.1 dM_device_81 (by decide) ?_
      refine lv_goto (tgt := 97) S.1 S.2.1 dM_device_83 (by decide) ?_
      exact rt_i S hr hk hK hP hD hS ((by simp [mu32, hma, hmb, g1, g2])) dM_device_97
  · refine lv_bipush (v := 33) S.1 S.2.1 dM_device_71 (by decide) ?_
    refine lv_goto (tgt := 97) S.1 S.2.1 dM_device_73 (by decide) ?_
    exact rt_i S hr hk hK hP hD hS ((by simp [mu32, hma, hmb, g1])) dM_device_97

set_option maxHeartbeats 4000000 in
set_option maxRecDepth 100000 in
theorem c_M_device_33 (l : Launch) (D : va_G) (a : AR) (sz : Nat) (pc ac lk mq ma mb ir sw io dl ha rd md kf kb cn pf : Int32) (co ou : Nat → Int32) (I : Iv a.2.2.2.2.2 (pc, ac, lk, mq, ma, mb, ir, sw, io, dl, ha, rd, 33, md, kf, kb, cn, pf, co, ou)) : MI l D (wr a) (tr a) sz yM_device cM_device 2 (some .int) 1 [.ref a.1] (pc, ac, lk, mq, ma, mb, ir, sw, io, dl, ha, rd, 33, md, kf, kb, cn, pf, co, ou) (fun r u => (r, u) = mu33 (pc, ac, lk, mq, ma, mb, ir, sw, io, dl, ha, rd, 33, md, kf, kb, cn, pf, co, ou)) := by
  refine en_i RM rfl (by decide) (Nat.le_of_ble_eq_true rfl) ?_
  intro p e s m below meth c A ls S hr hk hA hN hK hP hD hS hl
  have hl : lv_has ls 2 [(0, .ref a.1)] := hl
  obtain ⟨⟨hpc, hac, hmq, hma, hmb, hir, hsw⟩, hlk, ⟨hio, hdl, hha, hrd, hkf, hpf⟩, hsn, hlt, hkb, hcn, hn, hco⟩ := I
  refine lv_aload_n S.1 S.2.1 dM_device_0 rfl (lv_at hl 0 rfl) ?_
  refine g_M_M_at S hK hP dM_device_1 ?_
  refine lv_tableIn (off := 94) (tgt := 98) S.1 S.2.1 dM_device_4 (by decide +kernel) (by decide +kernel) (by decide +kernel) (by decide) ?_
  refine lv_aload_n S.1 S.2.1 dM_device_98 rfl (lv_at hl 0 rfl) ?_
  refine lv_aload_n S.1 S.2.1 dM_device_99 rfl (lv_at hl 0 rfl) ?_
  refine g_M_M_ion S hK hP dM_device_100 ?_
  refine lv_if_ne (tgt := 114) S.1 S.2.1 dM_device_103 (by decide) (fun g1 => ?_) (fun g1 => ?_)
  · refine lv_aload_n S.1 S.2.1 dM_device_114 rfl (lv_at hl 0 rfl) ?_
    refine lv_iconst (v := 2) S.1 S.2.1 dM_device_115 (by decide) ?_
    refine cl_i (As := [.int 2]) (rest := [.ref a.1]) S hN hK hP hD hS hA hl.1 (c_M_bit l D a _ pc ac lk mq ma mb ir sw io dl ha rd 33 md kf kb cn pf co ou 2) k_M_83 (rc_M hK hP) ⟨by decide, by decide⟩ rfl rfl (Nat.le_of_ble_eq_true rfl) ⟨Nat.le_refl _, Nat.le_refl _⟩ dM_device_116 (fun r u H locs hw hP hD hS => ?_)
    obtain ⟨g2, rfl, rfl⟩ | ⟨g3, rfl, rfl⟩ := hw
    · refine lv_if_ne (tgt := 126) S.1 S.2.1 dM_device_119 (by decide) (fun g4 => absurd (by decide) g4) (fun _ => ?_)
      refine lv_iconst (v := 1) S.1 S.2.1 dM_device_122 (by decide) ?_
      refine lv_goto (tgt := 127) S.1 S.2.1 dM_device_123 (by decide) ?_
      refine p_M_M_ion S hK hP hD hS rfl rfl dM_device_127 (fun H locs hP hD hS => ?_)
      refine lv_aload_n S.1 S.2.1 dM_device_130 rfl (lv_at hl 0 rfl) ?_
      refine lv_aload_n S.1 S.2.1 dM_device_131 rfl (lv_at hl 0 rfl) ?_
      refine g_M_M_delay S hK hP dM_device_132 ?_
      refine lv_if_ne (tgt := 146) S.1 S.2.1 dM_device_135 (by decide) (fun g5 => ?_) (fun g5 => ?_)
      · refine lv_iconst (v := 1) S.1 S.2.1 dM_device_146 (by decide) ?_
        refine lv_goto (tgt := 151) S.1 S.2.1 dM_device_147 (by decide) ?_
        refine p_M_M_delay S hK hP hD hS rfl rfl dM_device_151 (fun H locs hP hD hS => ?_)
        refine lv_iconst (v := 0) S.1 S.2.1 dM_device_154 (by decide) ?_
        exact rt_i S hr hk hK hP hD hS ((by simp [mu33, hma, hmb, hio.resolve_left g1, g2, hdl.resolve_left g5])) dM_device_155
      · refine lv_aload_n S.1 S.2.1 dM_device_138 rfl (lv_at hl 0 rfl) ?_
        refine lv_iconst (v := 1) S.1 S.2.1 dM_device_139 (by decide) ?_
        refine cl_i (As := [.int 1]) (rest := [.ref a.1]) S hN hK hP hD hS hA hl.1 (c_M_bit l D a _ pc ac lk mq ma mb ir sw 1 dl ha rd 33 md kf kb cn pf co ou 1) k_M_83 (rc_M hK hP) ⟨by decide, by decide⟩ rfl rfl (Nat.le_of_ble_eq_true rfl) ⟨Nat.le_refl _, Nat.le_refl _⟩ dM_device_140 (fun r u H locs hw hP hD hS => ?_)
        obtain ⟨g6, rfl, rfl⟩ | ⟨g7, rfl, rfl⟩ := hw
        · refine lv_if_eq (tgt := 150) S.1 S.2.1 dM_device_143 (by decide) (fun _ => ?_) (fun g8 => absurd (by decide) g8)
          refine lv_iconst (v := 0) S.1 S.2.1 dM_device_150 (by decide) ?_
          refine p_M_M_delay S hK hP hD hS rfl rfl dM_device_151 (fun H locs hP hD hS => ?_)
          refine lv_iconst (v := 0) S.1 S.2.1 dM_device_154 (by decide) ?_
          exact rt_i S hr hk hK hP hD hS ((by simp [mu33, hma, hmb, hio.resolve_left g1, g2, g5, g6])) dM_device_155
        · refine lv_if_eq (tgt := 150) S.1 S.2.1 dM_device_143 (by decide) (fun g9 => absurd g9 (by decide)) (fun _ => ?_)
          refine lv_iconst (v := 1) S.1 S.2.1 dM_device_146 (by decide) ?_
          refine lv_goto (tgt := 151) S.1 S.2.1 dM_device_147 (by decide) ?_
          refine p_M_M_delay S hK hP hD hS rfl rfl dM_device_151 (fun H locs hP hD hS => ?_)
          refine lv_iconst (v := 0) S.1 S.2.1 dM_device_154 (by decide) ?_
          exact rt_i S hr hk hK hP hD hS ((by simp [mu33, hma, hmb, hio.resolve_left g1, g2, g5, g7])) dM_device_155
    · refine lv_if_ne (tgt := 126) S.1 S.2.1 dM_device_119 (by decide) (fun _ => ?_) (fun g10 => absurd g10 (by decide))
      refine lv_iconst (v := 0) S.1 S.2.1 dM_device_126 (by decide) ?_
      refine p_M_M_ion S hK hP hD hS rfl rfl dM_device_127 (fun H locs hP hD hS => ?_)
      refine lv_aload_n S.1 S.2.1 dM_device_130 rfl (lv_at hl 0 rfl) ?_
      refine lv_aload_n S.1 S.2.1 dM_device_131 rfl (lv_at hl 0 rfl) ?_
      refine g_M_M_delay S hK hP dM_device_132 ?_
      refine lv_if_ne (tgt := 146) S.1 S.2.1 dM_device_135 (by decide) (fun g11 => ?_) (fun g11 => ?_)
      · refine lv_iconst (v := 1) S.1 S.2.1 dM_device_146 (by decide) ?_
        refine lv_goto (tgt := 151) S.1 S.2.1 dM_device_147 (by decide) ?_
        refine p_M_M_delay S hK hP hD hS rfl rfl dM_device_151 (fun H locs hP hD hS => ?_)
        refine lv_iconst (v := 0) S.1 S.2.1 dM_device_154 (by decide) ?_
        exact rt_i S hr hk hK hP hD hS ((by simp [mu33, hma, hmb, hio.resolve_left g1, g3, hdl.resolve_left g11])) dM_device_155
      · refine lv_aload_n S.1 S.2.1 dM_device_138 rfl (lv_at hl 0 rfl) ?_
        refine lv_iconst (v := 1) S.1 S.2.1 dM_device_139 (by decide) ?_
        refine cl_i (As := [.int 1]) (rest := [.ref a.1]) S hN hK hP hD hS hA hl.1 (c_M_bit l D a _ pc ac lk mq ma mb ir sw 0 dl ha rd 33 md kf kb cn pf co ou 1) k_M_83 (rc_M hK hP) ⟨by decide, by decide⟩ rfl rfl (Nat.le_of_ble_eq_true rfl) ⟨Nat.le_refl _, Nat.le_refl _⟩ dM_device_140 (fun r u H locs hw hP hD hS => ?_)
        obtain ⟨g12, rfl, rfl⟩ | ⟨g13, rfl, rfl⟩ := hw
        · refine lv_if_eq (tgt := 150) S.1 S.2.1 dM_device_143 (by decide) (fun _ => ?_) (fun g14 => absurd (by decide) g14)
          refine lv_iconst (v := 0) S.1 S.2.1 dM_device_150 (by decide) ?_
          refine p_M_M_delay S hK hP hD hS rfl rfl dM_device_151 (fun H locs hP hD hS => ?_)
          refine lv_iconst (v := 0) S.1 S.2.1 dM_device_154 (by decide) ?_
          exact rt_i S hr hk hK hP hD hS ((by simp [mu33, hma, hmb, hio.resolve_left g1, g3, g11, g12])) dM_device_155
        · refine lv_if_eq (tgt := 150) S.1 S.2.1 dM_device_143 (by decide) (fun g15 => absurd g15 (by decide)) (fun _ => ?_)
          refine lv_iconst (v := 1) S.1 S.2.1 dM_device_146 (by decide) ?_
          refine lv_goto (tgt := 151) S.1 S.2.1 dM_device_147 (by decide) ?_
          refine p_M_M_delay S hK hP hD hS rfl rfl dM_device_151 (fun H locs hP hD hS => ?_)
          refine lv_iconst (v := 0) S.1 S.2.1 dM_device_154 (by decide) ?_
          exact rt_i S hr hk hK hP hD hS ((by simp [mu33, hma, hmb, hio.resolve_left g1, g3, g11, g13])) dM_device_155
  · refine lv_aload_n S.1 S.2.1 dM_device_106 rfl (lv_at hl 0 rfl) ?_
    refine lv_iconst (v := 1) S.1 S.2.1 dM_device_107 (by decide) ?_
    refine cl_i (As := [.int 1]) (rest := [.ref a.1]) S hN hK hP hD hS hA hl.1 (c_M_bit l D a _ pc ac lk mq ma mb ir sw io dl ha rd 33 md kf kb cn pf co ou 1) k_M_83 (rc_M hK hP) ⟨by decide, by decide⟩ rfl rfl (Nat.le_of_ble_eq_true rfl) ⟨Nat.le_refl _, Nat.le_refl _⟩ dM_device_108 (fun r u H locs hw hP hD hS => ?_)
    obtain ⟨g16, rfl, rfl⟩ | ⟨g17, rfl, rfl⟩ := hw
    · refine lv_if_eq (tgt := 126) S.1 S.2.1 dM_device_111 (by decide) (fun _ => ?_) (fun g18 => absurd (by decide) g18)
      refine lv_iconst (v := 0) S.1 S.2.1 dM_device_126 (by decide) ?_
      refine p_M_M_ion S hK hP hD hS rfl rfl dM_device_127 (fun H locs hP hD hS => ?_)
      refine lv_aload_n S.1 S.2.1 dM_device_130 rfl (lv_at hl 0 rfl) ?_
      refine lv_aload_n S.1 S.2.1 dM_device_131 rfl (lv_at hl 0 rfl) ?_
      refine g_M_M_delay S hK hP dM_device_132 ?_
      refine lv_if_ne (tgt := 146) S.1 S.2.1 dM_device_135 (by decide) (fun g19 => ?_) (fun g19 => ?_)
      · refine lv_iconst (v := 1) S.1 S.2.1 dM_device_146 (by decide) ?_
        refine lv_goto (tgt := 151) S.1 S.2.1 dM_device_147 (by decide) ?_
        refine p_M_M_delay S hK hP hD hS rfl rfl dM_device_151 (fun H locs hP hD hS => ?_)
        refine lv_iconst (v := 0) S.1 S.2.1 dM_device_154 (by decide) ?_
        exact rt_i S hr hk hK hP hD hS ((by simp [mu33, hma, hmb, g1, g16, hdl.resolve_left g19])) dM_device_155
      · refine lv_aload_n S.1 S.2.1 dM_device_138 rfl (lv_at hl 0 rfl) ?_
        refine lv_iconst (v := 1) S.1 S.2.1 dM_device_139 (by decide) ?_
        refine cl_i (As := [.int 1]) (rest := [.ref a.1]) S hN hK hP hD hS hA hl.1 (c_M_bit l D a _ pc ac lk mq ma mb ir sw 0 dl ha rd 33 md kf kb cn pf co ou 1) k_M_83 (rc_M hK hP) ⟨by decide, by decide⟩ rfl rfl (Nat.le_of_ble_eq_true rfl) ⟨Nat.le_refl _, Nat.le_refl _⟩ dM_device_140 (fun r u H locs hw hP hD hS => ?_)
        obtain ⟨g20, rfl, rfl⟩ | ⟨g21, rfl, rfl⟩ := hw
        · refine lv_if_eq (tgt := 150) S.1 S.2.1 dM_device_143 (by decide) (fun _ => ?_) (fun g22 => absurd (by decide) g22)
          refine lv_iconst (v := 0) S.1 S.2.1 dM_device_150 (by decide) ?_
          refine p_M_M_delay S hK hP hD hS rfl rfl dM_device_151 (fun H locs hP hD hS => ?_)
          refine lv_iconst (v := 0) S.1 S.2.1 dM_device_154 (by decide) ?_
          exact rt_i S hr hk hK hP hD hS ((by simp [mu33, hma, hmb, g1, g16, g19, g20])) dM_device_155
        · first | exact absurd g21 g16 | exact absurd g16 g21
    · refine lv_if_eq (tgt := 126) S.1 S.2.1 dM_device_111 (by decide) (fun g23 => absurd g23 (by decide)) (fun _ => ?_)
      refine lv_aload_n S.1 S.2.1 dM_device_114 rfl (lv_at hl 0 rfl) ?_
      refine lv_iconst (v := 2) S.1 S.2.1 dM_device_115 (by decide) ?_
      refine cl_i (As := [.int 2]) (rest := [.ref a.1]) S hN hK hP hD hS hA hl.1 (c_M_bit l D a _ pc ac lk mq ma mb ir sw io dl ha rd 33 md kf kb cn pf co ou 2) k_M_83 (rc_M hK hP) ⟨by decide, by decide⟩ rfl rfl (Nat.le_of_ble_eq_true rfl) ⟨Nat.le_refl _, Nat.le_refl _⟩ dM_device_116 (fun r u H locs hw hP hD hS => ?_)
      obtain ⟨g24, rfl, rfl⟩ | ⟨g25, rfl, rfl⟩ := hw
      · refine lv_if_ne (tgt := 126) S.1 S.2.1 dM_device_119 (by decide) (fun g26 => absurd (by decide) g26) (fun _ => ?_)
        refine lv_iconst (v := 1) S.1 S.2.1 dM_device_122 (by decide) ?_
        refine lv_goto (tgt := 127) S.1 S.2.1 dM_device_123 (by decide) ?_
        refine p_M_M_ion S hK hP hD hS rfl rfl dM_device_127 (fun H locs hP hD hS => ?_)
        refine lv_aload_n S.1 S.2.1 dM_device_130 rfl (lv_at hl 0 rfl) ?_
        refine lv_aload_n S.1 S.2.1 dM_device_131 rfl (lv_at hl 0 rfl) ?_
        refine g_M_M_delay S hK hP dM_device_132 ?_
        refine lv_if_ne (tgt := 146) S.1 S.2.1 dM_device_135 (by decide) (fun g27 => ?_) (fun g27 => ?_)
        · refine lv_iconst (v := 1) S.1 S.2.1 dM_device_146 (by decide) ?_
          refine lv_goto (tgt := 151) S.1 S.2.1 dM_device_147 (by decide) ?_
          refine p_M_M_delay S hK hP hD hS rfl rfl dM_device_151 (fun H locs hP hD hS => ?_)
          refine lv_iconst (v := 0) S.1 S.2.1 dM_device_154 (by decide) ?_
          exact rt_i S hr hk hK hP hD hS ((by simp [mu33, hma, hmb, g1, g17, g24, hdl.resolve_left g27])) dM_device_155
        · refine lv_aload_n S.1 S.2.1 dM_device_138 rfl (lv_at hl 0 rfl) ?_
          refine lv_iconst (v := 1) S.1 S.2.1 dM_device_139 (by decide) ?_
          refine cl_i (As := [.int 1]) (rest := [.ref a.1]) S hN hK hP hD hS hA hl.1 (c_M_bit l D a _ pc ac lk mq ma mb ir sw 1 dl ha rd 33 md kf kb cn pf co ou 1) k_M_83 (rc_M hK hP) ⟨by decide, by decide⟩ rfl rfl (Nat.le_of_ble_eq_true rfl) ⟨Nat.le_refl _, Nat.le_refl _⟩ dM_device_140 (fun r u H locs hw hP hD hS => ?_)
          obtain ⟨g28, rfl, rfl⟩ | ⟨g29, rfl, rfl⟩ := hw
          · first | exact absurd g28 g17 | exact absurd g17 g28
          · refine lv_if_eq (tgt := 150) S.1 S.2.1 dM_device_143 (by decide) (fun g30 => absurd g30 (by decide)) (fun _ => ?_)
            refine lv_iconst (v := 1) S.1 S.2.1 dM_device_146 (by decide) ?_
            refine lv_goto (tgt := 151) S.1 S.2.1 dM_device_147 (by decide) ?_
            refine p_M_M_delay S hK hP hD hS rfl rfl dM_device_151 (fun H locs hP hD hS => ?_)
            refine lv_iconst (v := 0) S.1 S.2.1 dM_device_154 (by decide) ?_
            exact rt_i S hr hk hK hP hD hS ((by simp [mu33, hma, hmb, g1, g17, g24, g27, g29])) dM_device_155
      · refine lv_if_ne (tgt := 126) S.1 S.2.1 dM_device_119 (by decide) (fun _ => ?_) (fun g31 => absurd g31 (by decide))
        refine lv_iconst (v := 0) S.1 S.2.1 dM_device_126 (by decide) ?_
        refine p_M_M_ion S hK hP hD hS rfl rfl dM_device_127 (fun H locs hP hD hS => ?_)
        refine lv_aload_n S.1 S.2.1 dM_device_130 rfl (lv_at hl 0 rfl) ?_
        refine lv_aload_n S.1 S.2.1 dM_device_131 rfl (lv_at hl 0 rfl) ?_
        refine g_M_M_delay S hK hP dM_device_132 ?_
        refine lv_if_ne (tgt := 146) S.1 S.2.1 dM_device_135 (by decide) (fun g32 => ?_) (fun g32 => ?_)
        · refine lv_iconst (v := 1) S.1 S.2.1 dM_device_146 (by decide) ?_
          refine lv_goto (tgt := 151) S.1 S.2.1 dM_device_147 (by decide) ?_
          refine p_M_M_delay S hK hP hD hS rfl rfl dM_device_151 (fun H locs hP hD hS => ?_)
          refine lv_iconst (v := 0) S.1 S.2.1 dM_device_154 (by decide) ?_
          exact rt_i S hr hk hK hP hD hS ((by simp [mu33, hma, hmb, g1, g17, g25, hdl.resolve_left g32])) dM_device_155
        · refine lv_aload_n S.1 S.2.1 dM_device_138 rfl (lv_at hl 0 rfl) ?_
          refine lv_iconst (v := 1) S.1 S.2.1 dM_device_139 (by decide) ?_
          refine cl_i (As := [.int 1]) (rest := [.ref a.1]) S hN hK hP hD hS hA hl.1 (c_M_bit l D a _ pc ac lk mq ma mb ir sw 0 dl ha rd 33 md kf kb cn pf co ou 1) k_M_83 (rc_M hK hP) ⟨by decide, by decide⟩ rfl rfl (Nat.le_of_ble_eq_true rfl) ⟨Nat.le_refl _, Nat.le_refl _⟩ dM_device_140 (fun r u H locs hw hP hD hS => ?_)
          obtain ⟨g33, rfl, rfl⟩ | ⟨g34, rfl, rfl⟩ := hw
          · first | exact absurd g33 g17 | exact absurd g17 g33
          · refine lv_if_eq (tgt := 150) S.1 S.2.1 dM_device_143 (by decide) (fun g35 => absurd g35 (by decide)) (fun _ => ?_)
            refine lv_iconst (v := 1) S.1 S.2.1 dM_device_146 (by decide) ?_
            refine lv_goto (tgt := 151) S.1 S.2.1 dM_device_147 (by decide) ?_
            refine p_M_M_delay S hK hP hD hS rfl rfl dM_device_151 (fun H locs hP hD hS => ?_)
            refine lv_iconst (v := 0) S.1 S.2.1 dM_device_154 (by decide) ?_
            exact rt_i S hr hk hK hP hD hS ((by simp [mu33, hma, hmb, g1, g17, g25, g32, g34])) dM_device_155

set_option maxHeartbeats 4000000 in
set_option maxRecDepth 100000 in
theorem c_M_device_34 (l : Launch) (D : va_G) (a : AR) (sz : Nat) (pc ac lk mq ma mb ir sw io dl ha rd md kf kb cn pf : Int32) (co ou : Nat → Int32) (I : Iv a.2.2.2.2.2 (pc, ac, lk, mq, ma, mb, ir, sw, io, dl, ha, rd, 34, md, kf, kb, cn, pf, co, ou)) : MI l D (wr a) (tr a) sz yM_device cM_device 2 (some .int) 1 [.ref a.1] (pc, ac, lk, mq, ma, mb, ir, sw, io, dl, ha, rd, 34, md, kf, kb, cn, pf, co, ou) (fun r u => (r, u) = mu34 (pc, ac, lk, mq, ma, mb, ir, sw, io, dl, ha, rd, 34, md, kf, kb, cn, pf, co, ou)) := by
  refine en_i RM rfl (by decide) (Nat.le_of_ble_eq_true rfl) ?_
  intro p e s m below meth c A ls S hr hk hA hN hK hP hD hS hl
  have hl : lv_has ls 2 [(0, .ref a.1)] := hl
  obtain ⟨⟨hpc, hac, hmq, hma, hmb, hir, hsw⟩, hlk, ⟨hio, hdl, hha, hrd, hkf, hpf⟩, hsn, hlt, hkb, hcn, hn, hco⟩ := I
  refine lv_aload_n S.1 S.2.1 dM_device_0 rfl (lv_at hl 0 rfl) ?_
  refine g_M_M_at S hK hP dM_device_1 ?_
  refine lv_tableIn (off := 152) (tgt := 156) S.1 S.2.1 dM_device_4 (by decide +kernel) (by decide +kernel) (by decide +kernel) (by decide) ?_
  refine lv_aload_n S.1 S.2.1 dM_device_156 rfl (lv_at hl 0 rfl) ?_
  refine lv_aload_n S.1 S.2.1 dM_device_157 rfl (lv_at hl 0 rfl) ?_
  refine lv_iconst (v := 1) S.1 S.2.1 dM_device_158 (by decide) ?_
  refine cl_i (As := [.int 1]) (rest := [.ref a.1]) S hN hK hP hD hS hA hl.1 (c_M_bit l D a _ pc ac lk mq ma mb ir sw io dl ha rd 34 md kf kb cn pf co ou 1) k_M_83 (rc_M hK hP) ⟨by decide, by decide⟩ rfl rfl (Nat.le_of_ble_eq_true rfl) ⟨Nat.le_refl _, Nat.le_refl _⟩ dM_device_159 (fun r u H locs hw hP hD hS => ?_)
  obtain ⟨g1, rfl, rfl⟩ | ⟨g2, rfl, rfl⟩ := hw
  · refine lv_if_eq (tgt := 176) S.1 S.2.1 dM_device_162 (by decide) (fun _ => ?_) (fun g3 => absurd (by decide) g3)
    refine lv_iconst (v := 0) S.1 S.2.1 dM_device_176 (by decide) ?_
    refine cl_v (As := [.int 0]) (rest := []) S hN hK hP hD hS hA hl.1 (c_M_skip l D a _ pc ac lk mq ma mb ir sw io dl ha rd 34 md kf kb cn pf co ou 0) k_M_79 (rc_M hK hP) ⟨by decide, by decide⟩ rfl rfl (Nat.le_of_ble_eq_true rfl) ⟨Nat.le_refl _, Nat.le_refl _⟩ dM_device_177 (fun u H locs hw hP hD hS => ?_)
    obtain ⟨g4, rfl⟩ | ⟨g5, rfl⟩ := hw
    · refine lv_aload_n S.1 S.2.1 dM_device_180 rfl (lv_at hl 0 rfl) ?_
      refine lv_iconst (v := 2) S.1 S.2.1 dM_device_181 (by decide) ?_
      refine cl_i (As := [.int 2]) (rest := []) S hN hK hP hD hS hA hl.1 (c_M_bit l D a _ pc ac lk mq ma mb ir sw io dl ha rd 34 md kf kb cn pf co ou 2) k_M_83 (rc_M hK hP) ⟨by decide, by decide⟩ rfl rfl (Nat.le_of_ble_eq_true rfl) ⟨Nat.le_refl _, Nat.le_refl _⟩ dM_device_182 (fun r u H locs hw hP hD hS => ?_)
      obtain ⟨g6, rfl, rfl⟩ | ⟨g7, rfl, rfl⟩ := hw
      · refine lv_if_eq (tgt := 198) S.1 S.2.1 dM_device_185 (by decide) (fun _ => ?_) (fun g8 => absurd (by decide) g8)
        refine lv_aload_n S.1 S.2.1 dM_device_198 rfl (lv_at hl 0 rfl) ?_
        refine lv_iconst (v := 4) S.1 S.2.1 dM_device_199 (by decide) ?_
        refine cl_i (As := [.int 4]) (rest := []) S hN hK hP hD hS hA hl.1 (c_M_bit l D a _ pc ac lk mq ma mb ir sw io dl ha rd 34 md kf kb cn pf co ou 4) k_M_83 (rc_M hK hP) ⟨by decide, by decide⟩ rfl rfl (Nat.le_of_ble_eq_true rfl) ⟨Nat.le_refl _, Nat.le_refl _⟩ dM_device_200 (fun r u H locs hw hP hD hS => ?_)
        obtain ⟨g9, rfl, rfl⟩ | ⟨g10, rfl, rfl⟩ := hw
        · refine lv_if_eq (tgt := 211) S.1 S.2.1 dM_device_203 (by decide) (fun _ => ?_) (fun g11 => absurd (by decide) g11)
          refine lv_iconst (v := 0) S.1 S.2.1 dM_device_211 (by decide) ?_
          exact rt_i S hr hk hK hP hD hS ((by simp [mu34, hma, hmb, g1, g4, g6, g9])) dM_device_212
        · refine lv_if_eq (tgt := 211) S.1 S.2.1 dM_device_203 (by decide) (fun g12 => absurd g12 (by decide)) (fun _ => ?_)
          refine lv_bipush (v := 35) S.1 S.2.1 dM_device_206 (by decide) ?_
          refine lv_goto (tgt := 212) S.1 S.2.1 dM_device_208 (by decide) ?_
          exact rt_i S hr hk hK hP hD hS ((by simp [mu34, hma, hmb, g1, g4, g6, g10])) dM_device_212
      · refine lv_if_eq (tgt := 198) S.1 S.2.1 dM_device_185 (by decide) (fun g13 => absurd g13 (by decide)) (fun _ => ?_)
        refine lv_aload_n S.1 S.2.1 dM_device_188 rfl (lv_at hl 0 rfl) ?_
        refine lv_iconst (v := 0) S.1 S.2.1 dM_device_189 (by decide) ?_
        refine p_M_M_keyFlag S hK hP hD hS rfl rfl dM_device_190 (fun H locs hP hD hS => ?_)
        refine lv_aload_n S.1 S.2.1 dM_device_193 rfl (lv_at hl 0 rfl) ?_
        refine lv_iconst (v := 0) S.1 S.2.1 dM_device_194 (by decide) ?_
        refine p_M_M_ac S hK hP hD hS dM_device_195 (fun H locs hP hD hS => ?_)
        refine lv_aload_n S.1 S.2.1 dM_device_198 rfl (lv_at hl 0 rfl) ?_
        refine lv_iconst (v := 4) S.1 S.2.1 dM_device_199 (by decide) ?_
        refine cl_i (As := [.int 4]) (rest := []) S hN hK hP hD hS hA hl.1 (c_M_bit l D a _ pc 0 lk mq ma mb ir sw io dl ha rd 34 md 0 kb cn pf co ou 4) k_M_83 (rc_M hK hP) ⟨by decide, by decide⟩ rfl rfl (Nat.le_of_ble_eq_true rfl) ⟨Nat.le_refl _, Nat.le_refl _⟩ dM_device_200 (fun r u H locs hw hP hD hS => ?_)
        obtain ⟨g14, rfl, rfl⟩ | ⟨g15, rfl, rfl⟩ := hw
        · refine lv_if_eq (tgt := 211) S.1 S.2.1 dM_device_203 (by decide) (fun _ => ?_) (fun g16 => absurd (by decide) g16)
          refine lv_iconst (v := 0) S.1 S.2.1 dM_device_211 (by decide) ?_
          exact rt_i S hr hk hK hP hD hS ((by simp [mu34, hma, hmb, g1, g4, g7, g14])) dM_device_212
        · refine lv_if_eq (tgt := 211) S.1 S.2.1 dM_device_203 (by decide) (fun g17 => absurd g17 (by decide)) (fun _ => ?_)
          refine lv_bipush (v := 35) S.1 S.2.1 dM_device_206 (by decide) ?_
          refine lv_goto (tgt := 212) S.1 S.2.1 dM_device_208 (by decide) ?_
          exact rt_i S hr hk hK hP hD hS ((by simp [mu34, hma, hmb, g1, g4, g7, g15])) dM_device_212
    · exact absurd g5 (by decide)
  · refine lv_if_eq (tgt := 176) S.1 S.2.1 dM_device_162 (by decide) (fun g18 => absurd g18 (by decide)) (fun _ => ?_)
    refine lv_aload_n S.1 S.2.1 dM_device_165 rfl (lv_at hl 0 rfl) ?_
    refine g_M_M_keyFlag S hK hP dM_device_166 ?_
    refine lv_if_eq (tgt := 176) S.1 S.2.1 dM_device_169 (by decide) (fun g19 => ?_) (fun g19 => ?_)
    · refine lv_iconst (v := 0) S.1 S.2.1 dM_device_176 (by decide) ?_
      refine cl_v (As := [.int 0]) (rest := []) S hN hK hP hD hS hA hl.1 (c_M_skip l D a _ pc ac lk mq ma mb ir sw io dl ha rd 34 md kf kb cn pf co ou 0) k_M_79 (rc_M hK hP) ⟨by decide, by decide⟩ rfl rfl (Nat.le_of_ble_eq_true rfl) ⟨Nat.le_refl _, Nat.le_refl _⟩ dM_device_177 (fun u H locs hw hP hD hS => ?_)
      obtain ⟨g20, rfl⟩ | ⟨g21, rfl⟩ := hw
      · refine lv_aload_n S.1 S.2.1 dM_device_180 rfl (lv_at hl 0 rfl) ?_
        refine lv_iconst (v := 2) S.1 S.2.1 dM_device_181 (by decide) ?_
        refine cl_i (As := [.int 2]) (rest := []) S hN hK hP hD hS hA hl.1 (c_M_bit l D a _ pc ac lk mq ma mb ir sw io dl ha rd 34 md kf kb cn pf co ou 2) k_M_83 (rc_M hK hP) ⟨by decide, by decide⟩ rfl rfl (Nat.le_of_ble_eq_true rfl) ⟨Nat.le_refl _, Nat.le_refl _⟩ dM_device_182 (fun r u H locs hw hP hD hS => ?_)
        obtain ⟨g22, rfl, rfl⟩ | ⟨g23, rfl, rfl⟩ := hw
        · refine lv_if_eq (tgt := 198) S.1 S.2.1 dM_device_185 (by decide) (fun _ => ?_) (fun g24 => absurd (by decide) g24)
          refine lv_aload_n S.1 S.2.1 dM_device_198 rfl (lv_at hl 0 rfl) ?_
          refine lv_iconst (v := 4) S.1 S.2.1 dM_device_199 (by decide) ?_
          refine cl_i (As := [.int 4]) (rest := []) S hN hK hP hD hS hA hl.1 (c_M_bit l D a _ pc ac lk mq ma mb ir sw io dl ha rd 34 md kf kb cn pf co ou 4) k_M_83 (rc_M hK hP) ⟨by decide, by decide⟩ rfl rfl (Nat.le_of_ble_eq_true rfl) ⟨Nat.le_refl _, Nat.le_refl _⟩ dM_device_200 (fun r u H locs hw hP hD hS => ?_)
          obtain ⟨g25, rfl, rfl⟩ | ⟨g26, rfl, rfl⟩ := hw
          · refine lv_if_eq (tgt := 211) S.1 S.2.1 dM_device_203 (by decide) (fun _ => ?_) (fun g27 => absurd (by decide) g27)
            refine lv_iconst (v := 0) S.1 S.2.1 dM_device_211 (by decide) ?_
            exact rt_i S hr hk hK hP hD hS ((by simp [mu34, hma, hmb, g2, g19, g20, g22, g25])) dM_device_212
          · refine lv_if_eq (tgt := 211) S.1 S.2.1 dM_device_203 (by decide) (fun g28 => absurd g28 (by decide)) (fun _ => ?_)
            refine lv_bipush (v := 35) S.1 S.2.1 dM_device_206 (by decide) ?_
            refine lv_goto (tgt := 212) S.1 S.2.1 dM_device_208 (by decide) ?_
            exact rt_i S hr hk hK hP hD hS ((by simp [mu34, hma, hmb, g2, g19, g20, g22, g26])) dM_device_212
        · refine lv_if_eq (tgt := 198) S.1 S.2.1 dM_device_185 (by decide) (fun g29 => absurd g29 (by decide)) (fun _ => ?_)
          refine lv_aload_n S.1 S.2.1 dM_device_188 rfl (lv_at hl 0 rfl) ?_
          refine lv_iconst (v := 0) S.1 S.2.1 dM_device_189 (by decide) ?_
          refine p_M_M_keyFlag S hK hP hD hS rfl rfl dM_device_190 (fun H locs hP hD hS => ?_)
          refine lv_aload_n S.1 S.2.1 dM_device_193 rfl (lv_at hl 0 rfl) ?_
          refine lv_iconst (v := 0) S.1 S.2.1 dM_device_194 (by decide) ?_
          refine p_M_M_ac S hK hP hD hS dM_device_195 (fun H locs hP hD hS => ?_)
          refine lv_aload_n S.1 S.2.1 dM_device_198 rfl (lv_at hl 0 rfl) ?_
          refine lv_iconst (v := 4) S.1 S.2.1 dM_device_199 (by decide) ?_
          refine cl_i (As := [.int 4]) (rest := []) S hN hK hP hD hS hA hl.1 (c_M_bit l D a _ pc 0 lk mq ma mb ir sw io dl ha rd 34 md 0 kb cn pf co ou 4) k_M_83 (rc_M hK hP) ⟨by decide, by decide⟩ rfl rfl (Nat.le_of_ble_eq_true rfl) ⟨Nat.le_refl _, Nat.le_refl _⟩ dM_device_200 (fun r u H locs hw hP hD hS => ?_)
          obtain ⟨g30, rfl, rfl⟩ | ⟨g31, rfl, rfl⟩ := hw
          · refine lv_if_eq (tgt := 211) S.1 S.2.1 dM_device_203 (by decide) (fun _ => ?_) (fun g32 => absurd (by decide) g32)
            refine lv_iconst (v := 0) S.1 S.2.1 dM_device_211 (by decide) ?_
            exact rt_i S hr hk hK hP hD hS ((by simp [mu34, hma, hmb, g2, g19, g20, g23, g30])) dM_device_212
          · refine lv_if_eq (tgt := 211) S.1 S.2.1 dM_device_203 (by decide) (fun g33 => absurd g33 (by decide)) (fun _ => ?_)
            refine lv_bipush (v := 35) S.1 S.2.1 dM_device_206 (by decide) ?_
            refine lv_goto (tgt := 212) S.1 S.2.1 dM_device_208 (by decide) ?_
            exact rt_i S hr hk hK hP hD hS ((by simp [mu34, hma, hmb, g2, g19, g20, g23, g31])) dM_device_212
      · exact absurd g21 (by decide)
    · refine lv_iconst (v := 1) S.1 S.2.1 dM_device_172 (by decide) ?_
      refine lv_goto (tgt := 177) S.1 S.2.1 dM_device_173 (by decide) ?_
      refine cl_v (As := [.int 1]) (rest := []) S hN hK hP hD hS hA hl.1 (c_M_skip l D a _ pc ac lk mq ma mb ir sw io dl ha rd 34 md kf kb cn pf co ou 1) k_M_79 (rc_M hK hP) ⟨by decide, by decide⟩ rfl rfl (Nat.le_of_ble_eq_true rfl) ⟨Nat.le_refl _, Nat.le_refl _⟩ dM_device_177 (fun u H locs hw hP hD hS => ?_)
      obtain ⟨g34, rfl⟩ | ⟨g35, rfl⟩ := hw
      · exact absurd g34 (by decide)
      · refine lv_aload_n S.1 S.2.1 dM_device_180 rfl (lv_at hl 0 rfl) ?_
        refine lv_iconst (v := 2) S.1 S.2.1 dM_device_181 (by decide) ?_
        refine cl_i (As := [.int 2]) (rest := []) S hN hK hP hD hS hA hl.1 (c_M_bit l D a _ ((pc + 1) &&& 4095) ac lk mq ma mb ir sw io dl ha rd 34 md kf kb cn pf co ou 2) k_M_83 (rc_M hK hP) ⟨by decide, by decide⟩ rfl rfl (Nat.le_of_ble_eq_true rfl) ⟨Nat.le_refl _, Nat.le_refl _⟩ dM_device_182 (fun r u H locs hw hP hD hS => ?_)
        obtain ⟨g36, rfl, rfl⟩ | ⟨g37, rfl, rfl⟩ := hw
        · refine lv_if_eq (tgt := 198) S.1 S.2.1 dM_device_185 (by decide) (fun _ => ?_) (fun g38 => absurd (by decide) g38)
          refine lv_aload_n S.1 S.2.1 dM_device_198 rfl (lv_at hl 0 rfl) ?_
          refine lv_iconst (v := 4) S.1 S.2.1 dM_device_199 (by decide) ?_
          refine cl_i (As := [.int 4]) (rest := []) S hN hK hP hD hS hA hl.1 (c_M_bit l D a _ ((pc + 1) &&& 4095) ac lk mq ma mb ir sw io dl ha rd 34 md kf kb cn pf co ou 4) k_M_83 (rc_M hK hP) ⟨by decide, by decide⟩ rfl rfl (Nat.le_of_ble_eq_true rfl) ⟨Nat.le_refl _, Nat.le_refl _⟩ dM_device_200 (fun r u H locs hw hP hD hS => ?_)
          obtain ⟨g39, rfl, rfl⟩ | ⟨g40, rfl, rfl⟩ := hw
          · refine lv_if_eq (tgt := 211) S.1 S.2.1 dM_device_203 (by decide) (fun _ => ?_) (fun g41 => absurd (by decide) g41)
            refine lv_iconst (v := 0) S.1 S.2.1 dM_device_211 (by decide) ?_
            exact rt_i S hr hk hK hP hD hS ((by simp [mu34, hma, hmb, g2, g19, g35, g36, g39])) dM_device_212
          · refine lv_if_eq (tgt := 211) S.1 S.2.1 dM_device_203 (by decide) (fun g42 => absurd g42 (by decide)) (fun _ => ?_)
            refine lv_bipush (v := 35) S.1 S.2.1 dM_device_206 (by decide) ?_
            refine lv_goto (tgt := 212) S.1 S.2.1 dM_device_208 (by decide) ?_
            exact rt_i S hr hk hK hP hD hS ((by simp [mu34, hma, hmb, g2, g19, g35, g36, g40])) dM_device_212
        · refine lv_if_eq (tgt := 198) S.1 S.2.1 dM_device_185 (by decide) (fun g43 => absurd g43 (by decide)) (fun _ => ?_)
          refine lv_aload_n S.1 S.2.1 dM_device_188 rfl (lv_at hl 0 rfl) ?_
          refine lv_iconst (v := 0) S.1 S.2.1 dM_device_189 (by decide) ?_
          refine p_M_M_keyFlag S hK hP hD hS rfl rfl dM_device_190 (fun H locs hP hD hS => ?_)
          refine lv_aload_n S.1 S.2.1 dM_device_193 rfl (lv_at hl 0 rfl) ?_
          refine lv_iconst (v := 0) S.1 S.2.1 dM_device_194 (by decide) ?_
          refine p_M_M_ac S hK hP hD hS dM_device_195 (fun H locs hP hD hS => ?_)
          refine lv_aload_n S.1 S.2.1 dM_device_198 rfl (lv_at hl 0 rfl) ?_
          refine lv_iconst (v := 4) S.1 S.2.1 dM_device_199 (by decide) ?_
          refine cl_i (As := [.int 4]) (rest := []) S hN hK hP hD hS hA hl.1 (c_M_bit l D a _ ((pc + 1) &&& 4095) 0 lk mq ma mb ir sw io dl ha rd 34 md 0 kb cn pf co ou 4) k_M_83 (rc_M hK hP) ⟨by decide, by decide⟩ rfl rfl (Nat.le_of_ble_eq_true rfl) ⟨Nat.le_refl _, Nat.le_refl _⟩ dM_device_200 (fun r u H locs hw hP hD hS => ?_)
          obtain ⟨g44, rfl, rfl⟩ | ⟨g45, rfl, rfl⟩ := hw
          · refine lv_if_eq (tgt := 211) S.1 S.2.1 dM_device_203 (by decide) (fun _ => ?_) (fun g46 => absurd (by decide) g46)
            refine lv_iconst (v := 0) S.1 S.2.1 dM_device_211 (by decide) ?_
            exact rt_i S hr hk hK hP hD hS ((by simp [mu34, hma, hmb, g2, g19, g35, g37, g44])) dM_device_212
          · refine lv_if_eq (tgt := 211) S.1 S.2.1 dM_device_203 (by decide) (fun g47 => absurd g47 (by decide)) (fun _ => ?_)
            refine lv_bipush (v := 35) S.1 S.2.1 dM_device_206 (by decide) ?_
            refine lv_goto (tgt := 212) S.1 S.2.1 dM_device_208 (by decide) ?_
            exact rt_i S hr hk hK hP hD hS ((by simp [mu34, hma, hmb, g2, g19, g35, g37, g45])) dM_device_212

set_option maxHeartbeats 4000000 in
set_option maxRecDepth 100000 in
theorem c_M_device_35 (l : Launch) (D : va_G) (a : AR) (sz : Nat) (pc ac lk mq ma mb ir sw io dl ha rd md kf kb cn pf : Int32) (co ou : Nat → Int32) (I : Iv a.2.2.2.2.2 (pc, ac, lk, mq, ma, mb, ir, sw, io, dl, ha, rd, 35, md, kf, kb, cn, pf, co, ou)) : MI l D (wr a) (tr a) sz yM_device cM_device 2 (some .int) 1 [.ref a.1] (pc, ac, lk, mq, ma, mb, ir, sw, io, dl, ha, rd, 35, md, kf, kb, cn, pf, co, ou) (fun r u => (r, u) = mu35 (pc, ac, lk, mq, ma, mb, ir, sw, io, dl, ha, rd, 35, md, kf, kb, cn, pf, co, ou)) := by
  refine en_i RM rfl (by decide) (Nat.le_of_ble_eq_true rfl) ?_
  intro p e s m below meth c A ls S hr hk hA hN hK hP hD hS hl
  have hl : lv_has ls 2 [(0, .ref a.1)] := hl
  obtain ⟨⟨hpc, hac, hmq, hma, hmb, hir, hsw⟩, hlk, ⟨hio, hdl, hha, hrd, hkf, hpf⟩, hsn, hlt, hkb, hcn, hn, hco⟩ := I
  refine lv_aload_n S.1 S.2.1 dM_device_0 rfl (lv_at hl 0 rfl) ?_
  refine g_M_M_at S hK hP dM_device_1 ?_
  refine lv_tableIn (off := 209) (tgt := 213) S.1 S.2.1 dM_device_4 (by decide +kernel) (by decide +kernel) (by decide +kernel) (by decide) ?_
  refine lv_aload_n S.1 S.2.1 dM_device_213 rfl (lv_at hl 0 rfl) ?_
  refine lv_aload_n S.1 S.2.1 dM_device_214 rfl (lv_at hl 0 rfl) ?_
  refine g_M_M_ac S hK hP dM_device_215 ?_
  refine lv_aload_n S.1 S.2.1 dM_device_218 rfl (lv_at hl 0 rfl) ?_
  refine g_M_M_buffer S hK hP dM_device_219 ?_
  refine lv_ior S.1 S.2.1 dM_device_222 ?_
  refine p_M_M_ac S hK hP hD hS dM_device_223 (fun H locs hP hD hS => ?_)
  refine lv_iconst (v := 0) S.1 S.2.1 dM_device_226 (by decide) ?_
  exact rt_i S hr hk hK hP hD hS ((by simp [mu35, hma, hmb])) dM_device_227

set_option maxHeartbeats 4000000 in
set_option maxRecDepth 100000 in
theorem c_M_device_36 (l : Launch) (D : va_G) (a : AR) (sz : Nat) (pc ac lk mq ma mb ir sw io dl ha rd md kf kb cn pf : Int32) (co ou : Nat → Int32) (I : Iv a.2.2.2.2.2 (pc, ac, lk, mq, ma, mb, ir, sw, io, dl, ha, rd, 36, md, kf, kb, cn, pf, co, ou)) : MI l D (wr a) (tr a) sz yM_device cM_device 2 (some .int) 1 [.ref a.1] (pc, ac, lk, mq, ma, mb, ir, sw, io, dl, ha, rd, 36, md, kf, kb, cn, pf, co, ou) (fun r u => (r, u) = mu36 (pc, ac, lk, mq, ma, mb, ir, sw, io, dl, ha, rd, 36, md, kf, kb, cn, pf, co, ou)) := by
  refine en_i RM rfl (by decide) (Nat.le_of_ble_eq_true rfl) ?_
  intro p e s m below meth c A ls S hr hk hA hN hK hP hD hS hl
  have hl : lv_has ls 2 [(0, .ref a.1)] := hl
  obtain ⟨⟨hpc, hac, hmq, hma, hmb, hir, hsw⟩, hlk, ⟨hio, hdl, hha, hrd, hkf, hpf⟩, hsn, hlt, hkb, hcn, hn, hco⟩ := I
  refine lv_aload_n S.1 S.2.1 dM_device_0 rfl (lv_at hl 0 rfl) ?_
  refine g_M_M_at S hK hP dM_device_1 ?_
  refine lv_tableIn (off := 224) (tgt := 228) S.1 S.2.1 dM_device_4 (by decide +kernel) (by decide +kernel) (by decide +kernel) (by decide) ?_
  refine lv_aload_n S.1 S.2.1 dM_device_228 rfl (lv_at hl 0 rfl) ?_
  refine lv_aload_n S.1 S.2.1 dM_device_229 rfl (lv_at hl 0 rfl) ?_
  refine lv_iconst (v := 1) S.1 S.2.1 dM_device_230 (by decide) ?_
  refine cl_i (As := [.int 1]) (rest := [.ref a.1]) S hN hK hP hD hS hA hl.1 (c_M_bit l D a _ pc ac lk mq ma mb ir sw io dl ha rd 36 md kf kb cn pf co ou 1) k_M_83 (rc_M hK hP) ⟨by decide, by decide⟩ rfl rfl (Nat.le_of_ble_eq_true rfl) ⟨Nat.le_refl _, Nat.le_refl _⟩ dM_device_231 (fun r u H locs hw hP hD hS => ?_)
  obtain ⟨g1, rfl, rfl⟩ | ⟨g2, rfl, rfl⟩ := hw
  · refine lv_if_eq (tgt := 248) S.1 S.2.1 dM_device_234 (by decide) (fun _ => ?_) (fun g3 => absurd (by decide) g3)
    refine lv_iconst (v := 0) S.1 S.2.1 dM_device_248 (by decide) ?_
    refine cl_v (As := [.int 0]) (rest := []) S hN hK hP hD hS hA hl.1 (c_M_skip l D a _ pc ac lk mq ma mb ir sw io dl ha rd 36 md kf kb cn pf co ou 0) k_M_79 (rc_M hK hP) ⟨by decide, by decide⟩ rfl rfl (Nat.le_of_ble_eq_true rfl) ⟨Nat.le_refl _, Nat.le_refl _⟩ dM_device_249 (fun u H locs hw hP hD hS => ?_)
    obtain ⟨g4, rfl⟩ | ⟨g5, rfl⟩ := hw
    · refine lv_aload_n S.1 S.2.1 dM_device_252 rfl (lv_at hl 0 rfl) ?_
      refine lv_aload_n S.1 S.2.1 dM_device_253 rfl (lv_at hl 0 rfl) ?_
      refine g_M_M_printFlag S hK hP dM_device_254 ?_
      refine lv_if_eq (tgt := 272) S.1 S.2.1 dM_device_257 (by decide) (fun g6 => ?_) (fun g6 => ?_)
      · refine lv_iconst (v := 0) S.1 S.2.1 dM_device_272 (by decide) ?_
        refine p_M_M_printFlag S hK hP hD hS rfl rfl dM_device_273 (fun H locs hP hD hS => ?_)
        refine lv_aload_n S.1 S.2.1 dM_device_276 rfl (lv_at hl 0 rfl) ?_
        refine lv_iconst (v := 4) S.1 S.2.1 dM_device_277 (by decide) ?_
        refine cl_i (As := [.int 4]) (rest := []) S hN hK hP hD hS hA hl.1 (c_M_bit l D a _ pc ac lk mq ma mb ir sw io dl ha rd 36 md kf kb cn 0 co ou 4) k_M_83 (rc_M hK hP) ⟨by decide, by decide⟩ rfl rfl (Nat.le_of_ble_eq_true rfl) ⟨Nat.le_refl _, Nat.le_refl _⟩ dM_device_278 (fun r u H locs hw hP hD hS => ?_)
        obtain ⟨g7, rfl, rfl⟩ | ⟨g8, rfl, rfl⟩ := hw
        · refine lv_if_eq (tgt := 289) S.1 S.2.1 dM_device_281 (by decide) (fun _ => ?_) (fun g9 => absurd (by decide) g9)
          refine lv_iconst (v := 0) S.1 S.2.1 dM_device_289 (by decide) ?_
          exact rt_i S hr hk hK hP hD hS ((by simp [mu36, hma, hmb, g1, g4, g6, g7])) dM_device_290
        · refine lv_if_eq (tgt := 289) S.1 S.2.1 dM_device_281 (by decide) (fun g10 => absurd g10 (by decide)) (fun _ => ?_)
          refine lv_bipush (v := 37) S.1 S.2.1 dM_device_284 (by decide) ?_
          refine lv_goto (tgt := 290) S.1 S.2.1 dM_device_286 (by decide) ?_
          exact rt_i S hr hk hK hP hD hS ((by simp [mu36, hma, hmb, g1, g4, g6, g8])) dM_device_290
      · refine lv_aload_n S.1 S.2.1 dM_device_260 rfl (lv_at hl 0 rfl) ?_
        refine lv_iconst (v := 2) S.1 S.2.1 dM_device_261 (by decide) ?_
        refine cl_i (As := [.int 2]) (rest := [.ref a.1]) S hN hK hP hD hS hA hl.1 (c_M_bit l D a _ pc ac lk mq ma mb ir sw io dl ha rd 36 md kf kb cn pf co ou 2) k_M_83 (rc_M hK hP) ⟨by decide, by decide⟩ rfl rfl (Nat.le_of_ble_eq_true rfl) ⟨Nat.le_refl _, Nat.le_refl _⟩ dM_device_262 (fun r u H locs hw hP hD hS => ?_)
        obtain ⟨g11, rfl, rfl⟩ | ⟨g12, rfl, rfl⟩ := hw
        · refine lv_if_ne (tgt := 272) S.1 S.2.1 dM_device_265 (by decide) (fun g13 => absurd (by decide) g13) (fun _ => ?_)
          refine lv_iconst (v := 1) S.1 S.2.1 dM_device_268 (by decide) ?_
          refine lv_goto (tgt := 273) S.1 S.2.1 dM_device_269 (by decide) ?_
          refine p_M_M_printFlag S hK hP hD hS rfl rfl dM_device_273 (fun H locs hP hD hS => ?_)
          refine lv_aload_n S.1 S.2.1 dM_device_276 rfl (lv_at hl 0 rfl) ?_
          refine lv_iconst (v := 4) S.1 S.2.1 dM_device_277 (by decide) ?_
          refine cl_i (As := [.int 4]) (rest := []) S hN hK hP hD hS hA hl.1 (c_M_bit l D a _ pc ac lk mq ma mb ir sw io dl ha rd 36 md kf kb cn 1 co ou 4) k_M_83 (rc_M hK hP) ⟨by decide, by decide⟩ rfl rfl (Nat.le_of_ble_eq_true rfl) ⟨Nat.le_refl _, Nat.le_refl _⟩ dM_device_278 (fun r u H locs hw hP hD hS => ?_)
          obtain ⟨g14, rfl, rfl⟩ | ⟨g15, rfl, rfl⟩ := hw
          · refine lv_if_eq (tgt := 289) S.1 S.2.1 dM_device_281 (by decide) (fun _ => ?_) (fun g16 => absurd (by decide) g16)
            refine lv_iconst (v := 0) S.1 S.2.1 dM_device_289 (by decide) ?_
            exact rt_i S hr hk hK hP hD hS ((by simp [mu36, hma, hmb, g1, g4, hpf.resolve_left g6, g11, g14])) dM_device_290
          · refine lv_if_eq (tgt := 289) S.1 S.2.1 dM_device_281 (by decide) (fun g17 => absurd g17 (by decide)) (fun _ => ?_)
            refine lv_bipush (v := 37) S.1 S.2.1 dM_device_284 (by decide) ?_
            refine lv_goto (tgt := 290) S.1 S.2.1 dM_device_286 (by decide) ?_
            exact rt_i S hr hk hK hP hD hS ((by simp [mu36, hma, hmb, g1, g4, hpf.resolve_left g6, g11, g15])) dM_device_290
        · refine lv_if_ne (tgt := 272) S.1 S.2.1 dM_device_265 (by decide) (fun _ => ?_) (fun g18 => absurd g18 (by decide))
          refine lv_iconst (v := 0) S.1 S.2.1 dM_device_272 (by decide) ?_
          refine p_M_M_printFlag S hK hP hD hS rfl rfl dM_device_273 (fun H locs hP hD hS => ?_)
          refine lv_aload_n S.1 S.2.1 dM_device_276 rfl (lv_at hl 0 rfl) ?_
          refine lv_iconst (v := 4) S.1 S.2.1 dM_device_277 (by decide) ?_
          refine cl_i (As := [.int 4]) (rest := []) S hN hK hP hD hS hA hl.1 (c_M_bit l D a _ pc ac lk mq ma mb ir sw io dl ha rd 36 md kf kb cn 0 co ou 4) k_M_83 (rc_M hK hP) ⟨by decide, by decide⟩ rfl rfl (Nat.le_of_ble_eq_true rfl) ⟨Nat.le_refl _, Nat.le_refl _⟩ dM_device_278 (fun r u H locs hw hP hD hS => ?_)
          obtain ⟨g19, rfl, rfl⟩ | ⟨g20, rfl, rfl⟩ := hw
          · refine lv_if_eq (tgt := 289) S.1 S.2.1 dM_device_281 (by decide) (fun _ => ?_) (fun g21 => absurd (by decide) g21)
            refine lv_iconst (v := 0) S.1 S.2.1 dM_device_289 (by decide) ?_
            exact rt_i S hr hk hK hP hD hS ((by simp [mu36, hma, hmb, g1, g4, hpf.resolve_left g6, g12, g19])) dM_device_290
          · refine lv_if_eq (tgt := 289) S.1 S.2.1 dM_device_281 (by decide) (fun g22 => absurd g22 (by decide)) (fun _ => ?_)
            refine lv_bipush (v := 37) S.1 S.2.1 dM_device_284 (by decide) ?_
            refine lv_goto (tgt := 290) S.1 S.2.1 dM_device_286 (by decide) ?_
            exact rt_i S hr hk hK hP hD hS ((by simp [mu36, hma, hmb, g1, g4, hpf.resolve_left g6, g12, g20])) dM_device_290
    · exact absurd g5 (by decide)
  · refine lv_if_eq (tgt := 248) S.1 S.2.1 dM_device_234 (by decide) (fun g23 => absurd g23 (by decide)) (fun _ => ?_)
    refine lv_aload_n S.1 S.2.1 dM_device_237 rfl (lv_at hl 0 rfl) ?_
    refine g_M_M_printFlag S hK hP dM_device_238 ?_
    refine lv_if_eq (tgt := 248) S.1 S.2.1 dM_device_241 (by decide) (fun g24 => ?_) (fun g24 => ?_)
    · refine lv_iconst (v := 0) S.1 S.2.1 dM_device_248 (by decide) ?_
      refine cl_v (As := [.int 0]) (rest := []) S hN hK hP hD hS hA hl.1 (c_M_skip l D a _ pc ac lk mq ma mb ir sw io dl ha rd 36 md kf kb cn pf co ou 0) k_M_79 (rc_M hK hP) ⟨by decide, by decide⟩ rfl rfl (Nat.le_of_ble_eq_true rfl) ⟨Nat.le_refl _, Nat.le_refl _⟩ dM_device_249 (fun u H locs hw hP hD hS => ?_)
      obtain ⟨g25, rfl⟩ | ⟨g26, rfl⟩ := hw
      · refine lv_aload_n S.1 S.2.1 dM_device_252 rfl (lv_at hl 0 rfl) ?_
        refine lv_aload_n S.1 S.2.1 dM_device_253 rfl (lv_at hl 0 rfl) ?_
        refine g_M_M_printFlag S hK hP dM_device_254 ?_
        refine lv_if_eq (tgt := 272) S.1 S.2.1 dM_device_257 (by decide) (fun _ => ?_) (fun g27 => absurd g24 g27)
        refine lv_iconst (v := 0) S.1 S.2.1 dM_device_272 (by decide) ?_
        refine p_M_M_printFlag S hK hP hD hS rfl rfl dM_device_273 (fun H locs hP hD hS => ?_)
        refine lv_aload_n S.1 S.2.1 dM_device_276 rfl (lv_at hl 0 rfl) ?_
        refine lv_iconst (v := 4) S.1 S.2.1 dM_device_277 (by decide) ?_
        refine cl_i (As := [.int 4]) (rest := []) S hN hK hP hD hS hA hl.1 (c_M_bit l D a _ pc ac lk mq ma mb ir sw io dl ha rd 36 md kf kb cn 0 co ou 4) k_M_83 (rc_M hK hP) ⟨by decide, by decide⟩ rfl rfl (Nat.le_of_ble_eq_true rfl) ⟨Nat.le_refl _, Nat.le_refl _⟩ dM_device_278 (fun r u H locs hw hP hD hS => ?_)
        obtain ⟨g28, rfl, rfl⟩ | ⟨g29, rfl, rfl⟩ := hw
        · refine lv_if_eq (tgt := 289) S.1 S.2.1 dM_device_281 (by decide) (fun _ => ?_) (fun g30 => absurd (by decide) g30)
          refine lv_iconst (v := 0) S.1 S.2.1 dM_device_289 (by decide) ?_
          exact rt_i S hr hk hK hP hD hS ((by simp [mu36, hma, hmb, g2, g24, g25, g28])) dM_device_290
        · refine lv_if_eq (tgt := 289) S.1 S.2.1 dM_device_281 (by decide) (fun g31 => absurd g31 (by decide)) (fun _ => ?_)
          refine lv_bipush (v := 37) S.1 S.2.1 dM_device_284 (by decide) ?_
          refine lv_goto (tgt := 290) S.1 S.2.1 dM_device_286 (by decide) ?_
          exact rt_i S hr hk hK hP hD hS ((by simp [mu36, hma, hmb, g2, g24, g25, g29])) dM_device_290
      · exact absurd g26 (by decide)
    · refine lv_iconst (v := 1) S.1 S.2.1 dM_device_244 (by decide) ?_
      refine lv_goto (tgt := 249) S.1 S.2.1 dM_device_245 (by decide) ?_
      refine cl_v (As := [.int 1]) (rest := []) S hN hK hP hD hS hA hl.1 (c_M_skip l D a _ pc ac lk mq ma mb ir sw io dl ha rd 36 md kf kb cn pf co ou 1) k_M_79 (rc_M hK hP) ⟨by decide, by decide⟩ rfl rfl (Nat.le_of_ble_eq_true rfl) ⟨Nat.le_refl _, Nat.le_refl _⟩ dM_device_249 (fun u H locs hw hP hD hS => ?_)
      obtain ⟨g32, rfl⟩ | ⟨g33, rfl⟩ := hw
      · exact absurd g32 (by decide)
      · refine lv_aload_n S.1 S.2.1 dM_device_252 rfl (lv_at hl 0 rfl) ?_
        refine lv_aload_n S.1 S.2.1 dM_device_253 rfl (lv_at hl 0 rfl) ?_
        refine g_M_M_printFlag S hK hP dM_device_254 ?_
        refine lv_if_eq (tgt := 272) S.1 S.2.1 dM_device_257 (by decide) (fun g34 => absurd g34 g24) (fun _ => ?_)
        refine lv_aload_n S.1 S.2.1 dM_device_260 rfl (lv_at hl 0 rfl) ?_
        refine lv_iconst (v := 2) S.1 S.2.1 dM_device_261 (by decide) ?_
        refine cl_i (As := [.int 2]) (rest := [.ref a.1]) S hN hK hP hD hS hA hl.1 (c_M_bit l D a _ ((pc + 1) &&& 4095) ac lk mq ma mb ir sw io dl ha rd 36 md kf kb cn pf co ou 2) k_M_83 (rc_M hK hP) ⟨by decide, by decide⟩ rfl rfl (Nat.le_of_ble_eq_true rfl) ⟨Nat.le_refl _, Nat.le_refl _⟩ dM_device_262 (fun r u H locs hw hP hD hS => ?_)
        obtain ⟨g35, rfl, rfl⟩ | ⟨g36, rfl, rfl⟩ := hw
        · refine lv_if_ne (tgt := 272) S.1 S.2.1 dM_device_265 (by decide) (fun g37 => absurd (by decide) g37) (fun _ => ?_)
          refine lv_iconst (v := 1) S.1 S.2.1 dM_device_268 (by decide) ?_
          refine lv_goto (tgt := 273) S.1 S.2.1 dM_device_269 (by decide) ?_
          refine p_M_M_printFlag S hK hP hD hS rfl rfl dM_device_273 (fun H locs hP hD hS => ?_)
          refine lv_aload_n S.1 S.2.1 dM_device_276 rfl (lv_at hl 0 rfl) ?_
          refine lv_iconst (v := 4) S.1 S.2.1 dM_device_277 (by decide) ?_
          refine cl_i (As := [.int 4]) (rest := []) S hN hK hP hD hS hA hl.1 (c_M_bit l D a _ ((pc + 1) &&& 4095) ac lk mq ma mb ir sw io dl ha rd 36 md kf kb cn 1 co ou 4) k_M_83 (rc_M hK hP) ⟨by decide, by decide⟩ rfl rfl (Nat.le_of_ble_eq_true rfl) ⟨Nat.le_refl _, Nat.le_refl _⟩ dM_device_278 (fun r u H locs hw hP hD hS => ?_)
          obtain ⟨g38, rfl, rfl⟩ | ⟨g39, rfl, rfl⟩ := hw
          · refine lv_if_eq (tgt := 289) S.1 S.2.1 dM_device_281 (by decide) (fun _ => ?_) (fun g40 => absurd (by decide) g40)
            refine lv_iconst (v := 0) S.1 S.2.1 dM_device_289 (by decide) ?_
            exact rt_i S hr hk hK hP hD hS ((by simp [mu36, hma, hmb, g2, hpf.resolve_left g24, g33, g35, g38])) dM_device_290
          · refine lv_if_eq (tgt := 289) S.1 S.2.1 dM_device_281 (by decide) (fun g41 => absurd g41 (by decide)) (fun _ => ?_)
            refine lv_bipush (v := 37) S.1 S.2.1 dM_device_284 (by decide) ?_
            refine lv_goto (tgt := 290) S.1 S.2.1 dM_device_286 (by decide) ?_
            exact rt_i S hr hk hK hP hD hS ((by simp [mu36, hma, hmb, g2, hpf.resolve_left g24, g33, g35, g39])) dM_device_290
        · refine lv_if_ne (tgt := 272) S.1 S.2.1 dM_device_265 (by decide) (fun _ => ?_) (fun g42 => absurd g42 (by decide))
          refine lv_iconst (v := 0) S.1 S.2.1 dM_device_272 (by decide) ?_
          refine p_M_M_printFlag S hK hP hD hS rfl rfl dM_device_273 (fun H locs hP hD hS => ?_)
          refine lv_aload_n S.1 S.2.1 dM_device_276 rfl (lv_at hl 0 rfl) ?_
          refine lv_iconst (v := 4) S.1 S.2.1 dM_device_277 (by decide) ?_
          refine cl_i (As := [.int 4]) (rest := []) S hN hK hP hD hS hA hl.1 (c_M_bit l D a _ ((pc + 1) &&& 4095) ac lk mq ma mb ir sw io dl ha rd 36 md kf kb cn 0 co ou 4) k_M_83 (rc_M hK hP) ⟨by decide, by decide⟩ rfl rfl (Nat.le_of_ble_eq_true rfl) ⟨Nat.le_refl _, Nat.le_refl _⟩ dM_device_278 (fun r u H locs hw hP hD hS => ?_)
          obtain ⟨g43, rfl, rfl⟩ | ⟨g44, rfl, rfl⟩ := hw
          · refine lv_if_eq (tgt := 289) S.1 S.2.1 dM_device_281 (by decide) (fun _ => ?_) (fun g45 => absurd (by decide) g45)
            refine lv_iconst (v := 0) S.1 S.2.1 dM_device_289 (by decide) ?_
            exact rt_i S hr hk hK hP hD hS ((by simp [mu36, hma, hmb, g2, hpf.resolve_left g24, g33, g36, g43])) dM_device_290
          · refine lv_if_eq (tgt := 289) S.1 S.2.1 dM_device_281 (by decide) (fun g46 => absurd g46 (by decide)) (fun _ => ?_)
            refine lv_bipush (v := 37) S.1 S.2.1 dM_device_284 (by decide) ?_
            refine lv_goto (tgt := 290) S.1 S.2.1 dM_device_286 (by decide) ?_
            exact rt_i S hr hk hK hP hD hS ((by simp [mu36, hma, hmb, g2, hpf.resolve_left g24, g33, g36, g44])) dM_device_290

set_option maxHeartbeats 4000000 in
set_option maxRecDepth 100000 in
theorem c_M_device_40 (l : Launch) (D : va_G) (a : AR) (sz : Nat) (pc ac lk mq ma mb ir sw io dl ha rd md kf kb cn pf : Int32) (co ou : Nat → Int32) (I : Iv a.2.2.2.2.2 (pc, ac, lk, mq, ma, mb, ir, sw, io, dl, ha, rd, 40, md, kf, kb, cn, pf, co, ou)) : MI l D (wr a) (tr a) sz yM_device cM_device 2 (some .int) 1 [.ref a.1] (pc, ac, lk, mq, ma, mb, ir, sw, io, dl, ha, rd, 40, md, kf, kb, cn, pf, co, ou) (fun r u => (r, u) = mu40 (pc, ac, lk, mq, ma, mb, ir, sw, io, dl, ha, rd, 40, md, kf, kb, cn, pf, co, ou)) := by
  refine en_i RM rfl (by decide) (Nat.le_of_ble_eq_true rfl) ?_
  intro p e s m below meth c A ls S hr hk hA hN hK hP hD hS hl
  have hl : lv_has ls 2 [(0, .ref a.1)] := hl
  obtain ⟨⟨hpc, hac, hmq, hma, hmb, hir, hsw⟩, hlk, ⟨hio, hdl, hha, hrd, hkf, hpf⟩, hsn, hlt, hkb, hcn, hn, hco⟩ := I
  refine lv_aload_n S.1 S.2.1 dM_device_0 rfl (lv_at hl 0 rfl) ?_
  refine g_M_M_at S hK hP dM_device_1 ?_
  refine lv_tableIn (off := 321) (tgt := 325) S.1 S.2.1 dM_device_4 (by decide +kernel) (by decide +kernel) (by decide +kernel) (by decide) ?_
  refine lv_aload_n S.1 S.2.1 dM_device_325 rfl (lv_at hl 0 rfl) ?_
  refine lv_aload_n S.1 S.2.1 dM_device_326 rfl (lv_at hl 0 rfl) ?_
  refine g_M_M_pc S hK hP dM_device_327 ?_
  refine p_M_M_mb S hK hP hD hS dM_device_330 (fun H locs hP hD hS => ?_)
  refine lv_aload_n S.1 S.2.1 dM_device_333 rfl (lv_at hl 0 rfl) ?_
  refine lv_iconst (v := 0) S.1 S.2.1 dM_device_334 (by decide) ?_
  refine p_M_M_ma S hK hP hD hS dM_device_335 (fun H locs hP hD hS => ?_)
  refine lv_aload_n S.1 S.2.1 dM_device_338 rfl (lv_at hl 0 rfl) ?_
  refine lv_iconst (v := 0) S.1 S.2.1 dM_device_339 (by decide) ?_
  refine p_M_M_ion S hK hP hD hS rfl rfl dM_device_340 (fun H locs hP hD hS => ?_)
  refine lv_bipush (v := 41) S.1 S.2.1 dM_device_343 (by decide) ?_
  exact rt_i S hr hk hK hP hD hS ((by simp [mu40, hma, hmb])) dM_device_345

set_option maxHeartbeats 4000000 in
set_option maxRecDepth 100000 in
theorem c_M_device_41 (l : Launch) (D : va_G) (a : AR) (sz : Nat) (pc ac lk mq ma mb ir sw io dl ha rd md kf kb cn pf : Int32) (co ou : Nat → Int32) (I : Iv a.2.2.2.2.2 (pc, ac, lk, mq, ma, mb, ir, sw, io, dl, ha, rd, 41, md, kf, kb, cn, pf, co, ou)) : MI l D (wr a) (tr a) sz yM_device cM_device 2 (some .int) 1 [.ref a.1] (pc, ac, lk, mq, ma, mb, ir, sw, io, dl, ha, rd, 41, md, kf, kb, cn, pf, co, ou) (fun r u => (r, u) = mu41 (pc, ac, lk, mq, ma, mb, ir, sw, io, dl, ha, rd, 41, md, kf, kb, cn, pf, co, ou)) := by
  refine en_i RM rfl (by decide) (Nat.le_of_ble_eq_true rfl) ?_
  intro p e s m below meth c A ls S hr hk hA hN hK hP hD hS hl
  have hl : lv_has ls 2 [(0, .ref a.1)] := hl
  obtain ⟨⟨hpc, hac, hmq, hma, hmb, hir, hsw⟩, hlk, ⟨hio, hdl, hha, hrd, hkf, hpf⟩, hsn, hlt, hkb, hcn, hn, hco⟩ := I
  refine lv_aload_n S.1 S.2.1 dM_device_0 rfl (lv_at hl 0 rfl) ?_
  refine g_M_M_at S hK hP dM_device_1 ?_
  refine lv_tableOut (tgt := 346) S.1 S.2.1 dM_device_4 (by decide +kernel) (by decide) ?_
  refine lv_aload_n S.1 S.2.1 dM_device_346 rfl (lv_at hl 0 rfl) ?_
  refine g_M_M_core S hK hP dM_device_347 ?_
  refine lv_aload_n S.1 S.2.1 dM_device_350 rfl (lv_at hl 0 rfl) ?_
  refine g_M_M_ma S hK hP dM_device_351 ?_
  refine lv_aload_n S.1 S.2.1 dM_device_354 rfl (lv_at hl 0 rfl) ?_
  refine g_M_M_mb S hK hP dM_device_355 ?_
  refine st_rco S hK hP hD hS (in_w hma) dM_device_358 (fun H locs hP hD hS => ?_)
  refine lv_aload_n S.1 S.2.1 dM_device_359 rfl (lv_at hl 0 rfl) ?_
  refine lv_aload_n S.1 S.2.1 dM_device_360 rfl (lv_at hl 0 rfl) ?_
  refine g_M_M_ma S hK hP dM_device_361 ?_
  refine lv_iconst (v := 1) S.1 S.2.1 dM_device_364 (by decide) ?_
  refine lv_iadd S.1 S.2.1 dM_device_365 ?_
  refine lv_sipush (v := 4095) S.1 S.2.1 dM_device_366 (by decide) ?_
  refine lv_iand S.1 S.2.1 dM_device_369 ?_
  refine p_M_M_pc S hK hP hD hS dM_device_370 (fun H locs hP hD hS => ?_)
  refine lv_iconst (v := 0) S.1 S.2.1 dM_device_373 (by decide) ?_
  exact rt_i S hr hk hK hP hD hS ((by simp [mu41, hma, hmb])) dM_device_374

set_option maxHeartbeats 4000000 in
set_option maxRecDepth 100000 in
theorem c_M_device_37 (l : Launch) (D : va_G) (a : AR) (sz : Nat) (pc ac lk mq ma mb ir sw io dl ha rd md kf kb cn pf : Int32) (co ou : Nat → Int32) (I : Iv a.2.2.2.2.2 (pc, ac, lk, mq, ma, mb, ir, sw, io, dl, ha, rd, 37, md, kf, kb, cn, pf, co, ou)) (h37 : cn < nI a.2.2.2.2.2) : MI l D (wr a) (tr a) sz yM_device cM_device 2 (some .int) 1 [.ref a.1] (pc, ac, lk, mq, ma, mb, ir, sw, io, dl, ha, rd, 37, md, kf, kb, cn, pf, co, ou) (fun r u => (r, u) = mu37 (pc, ac, lk, mq, ma, mb, ir, sw, io, dl, ha, rd, 37, md, kf, kb, cn, pf, co, ou)) := by
  refine en_i RM rfl (by decide) (Nat.le_of_ble_eq_true rfl) ?_
  intro p e s m below meth c A ls S hr hk hA hN hK hP hD hS hl
  have hl : lv_has ls 2 [(0, .ref a.1)] := hl
  obtain ⟨⟨hpc, hac, hmq, hma, hmb, hir, hsw⟩, hlk, ⟨hio, hdl, hha, hrd, hkf, hpf⟩, hsn, hlt, hkb, hcn, hn, hco⟩ := I
  refine lv_aload_n S.1 S.2.1 dM_device_0 rfl (lv_at hl 0 rfl) ?_
  refine g_M_M_at S hK hP dM_device_1 ?_
  refine lv_tableIn (off := 287) (tgt := 291) S.1 S.2.1 dM_device_4 (by decide +kernel) (by decide +kernel) (by decide +kernel) (by decide) ?_
  refine lv_aload_n S.1 S.2.1 dM_device_291 rfl (lv_at hl 0 rfl) ?_
  refine g_M_M_print S hK hP dM_device_292 ?_
  refine lv_aload_n S.1 S.2.1 dM_device_295 rfl (lv_at hl 0 rfl) ?_
  refine g_M_M_printed S hK hP dM_device_296 ?_
  refine lv_aload_n S.1 S.2.1 dM_device_299 rfl (lv_at hl 0 rfl) ?_
  refine g_M_M_ac S hK hP dM_device_300 ?_
  refine lv_sipush (v := 255) S.1 S.2.1 dM_device_303 (by decide) ?_
  refine lv_iand S.1 S.2.1 dM_device_306 ?_
  refine st_rou S hK hP hD hS (in_up (cn_in hn hcn h37) hn) dM_device_307 (fun H locs hP hD hS => ?_)
  refine lv_aload_n S.1 S.2.1 dM_device_308 rfl (lv_at hl 0 rfl) ?_
  refine lv_dup S.1 S.2.1 dM_device_309 rfl ?_
  refine g_M_M_printed S hK hP dM_device_310 ?_
  refine lv_iconst (v := 1) S.1 S.2.1 dM_device_313 (by decide) ?_
  refine lv_iadd S.1 S.2.1 dM_device_314 ?_
  refine p_M_M_printed S hK hP hD hS dM_device_315 (fun H locs hP hD hS => ?_)
  refine lv_aload_n S.1 S.2.1 dM_device_318 rfl (lv_at hl 0 rfl) ?_
  refine lv_iconst (v := 1) S.1 S.2.1 dM_device_319 (by decide) ?_
  refine p_M_M_printFlag S hK hP hD hS rfl rfl dM_device_320 (fun H locs hP hD hS => ?_)
  refine lv_iconst (v := 0) S.1 S.2.1 dM_device_323 (by decide) ?_
  exact rt_i S hr hk hK hP hD hS ((by simp [mu37])) dM_device_324
