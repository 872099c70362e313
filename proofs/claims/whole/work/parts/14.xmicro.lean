set_option maxHeartbeats 4000000 in
set_option maxRecDepth 100000 in
theorem c_X_perform (l : Launch) (D : va_G) (a : AX) (sz : Nat) (pc ac lk mq ma mb ir sw io dl ha rd sn md kf kb cn pf : Int32) (co ou : Nat → Int32) (n : Int32) (hsn : Sn n) (hn : a.2.2.2.2.2.2.2 ≤ 100) (hcn : ∃ k : Nat, k ≤ a.2.2.2.2.2.2.2 ∧ cn = nI k) (h37 : n = 37 → cn < (nI a.2.2.2.2.2.2.2)) : MI l D (wx a) (tx a) sz yX_perform cX_perform 2 (some .int) 3 [.ref a.1, .int n] (pc, ac, lk, mq, ma, mb, ir, sw, io, dl, ha, rd, sn, md, kf, kb, cn, pf, co, ou) (fun r u => (r, u) = mu n (pc, ac, lk, mq, ma, mb, ir, sw, io, dl, ha, rd, sn, md, kf, kb, cn, pf, co, ou)) := by
  unfold Sn at hsn
  rcases hsn with rfl | rfl | rfl | rfl | rfl | rfl | rfl | rfl | rfl | rfl | rfl | rfl | rfl | rfl | rfl | rfl | rfl | rfl | rfl | rfl | rfl | rfl | rfl | rfl | rfl | rfl | rfl | rfl | rfl | rfl | rfl | rfl | rfl | rfl | rfl | rfl
  · exact c_X_perform_0 l D a sz pc ac lk mq ma mb ir sw io dl ha rd sn md kf kb cn pf co ou
  · exact c_X_perform_1 l D a sz pc ac lk mq ma mb ir sw io dl ha rd sn md kf kb cn pf co ou
  · exact c_X_perform_2 l D a sz pc ac lk mq ma mb ir sw io dl ha rd sn md kf kb cn pf co ou
  · exact c_X_perform_3 l D a sz pc ac lk mq ma mb ir sw io dl ha rd sn md kf kb cn pf co ou
  · exact c_X_perform_4 l D a sz pc ac lk mq ma mb ir sw io dl ha rd sn md kf kb cn pf co ou
  · exact c_X_perform_5 l D a sz pc ac lk mq ma mb ir sw io dl ha rd sn md kf kb cn pf co ou
  · exact c_X_perform_8 l D a sz pc ac lk mq ma mb ir sw io dl ha rd sn md kf kb cn pf co ou
  · exact c_X_perform_9 l D a sz pc ac lk mq ma mb ir sw io dl ha rd sn md kf kb cn pf co ou
  · exact c_X_perform_10 l D a sz pc ac lk mq ma mb ir sw io dl ha rd sn md kf kb cn pf co ou
  · exact c_X_perform_11 l D a sz pc ac lk mq ma mb ir sw io dl ha rd sn md kf kb cn pf co ou
  · exact c_X_perform_12 l D a sz pc ac lk mq ma mb ir sw io dl ha rd sn md kf kb cn pf co ou
  · exact c_X_perform_13 l D a sz pc ac lk mq ma mb ir sw io dl ha rd sn md kf kb cn pf co ou
  · exact c_X_perform_15 l D a sz pc ac lk mq ma mb ir sw io dl ha rd sn md kf kb cn pf co ou
  · exact c_X_perform_16 l D a sz pc ac lk mq ma mb ir sw io dl ha rd sn md kf kb cn pf co ou
  · exact c_X_perform_17 l D a sz pc ac lk mq ma mb ir sw io dl ha rd sn md kf kb cn pf co ou
  · exact c_X_perform_18 l D a sz pc ac lk mq ma mb ir sw io dl ha rd sn md kf kb cn pf co ou
  · exact c_X_perform_19 l D a sz pc ac lk mq ma mb ir sw io dl ha rd sn md kf kb cn pf co ou
  · exact c_X_perform_20 l D a sz pc ac lk mq ma mb ir sw io dl ha rd sn md kf kb cn pf co ou
  · exact c_X_perform_21 l D a sz pc ac lk mq ma mb ir sw io dl ha rd sn md kf kb cn pf co ou
  · exact c_X_perform_22 l D a sz pc ac lk mq ma mb ir sw io dl ha rd sn md kf kb cn pf co ou
  · exact c_X_perform_23 l D a sz pc ac lk mq ma mb ir sw io dl ha rd sn md kf kb cn pf co ou
  · exact c_X_perform_24 l D a sz pc ac lk mq ma mb ir sw io dl ha rd sn md kf kb cn pf co ou
  · exact c_X_perform_25 l D a sz pc ac lk mq ma mb ir sw io dl ha rd sn md kf kb cn pf co ou
  · exact c_X_perform_26 l D a sz pc ac lk mq ma mb ir sw io dl ha rd sn md kf kb cn pf co ou
  · exact c_X_perform_27 l D a sz pc ac lk mq ma mb ir sw io dl ha rd sn md kf kb cn pf co ou
  · exact c_X_perform_28 l D a sz pc ac lk mq ma mb ir sw io dl ha rd sn md kf kb cn pf co ou
  · exact c_X_perform_30 l D a sz pc ac lk mq ma mb ir sw io dl ha rd sn md kf kb cn pf co ou
  · exact c_X_perform_31 l D a sz pc ac lk mq ma mb ir sw io dl ha rd sn md kf kb cn pf co ou
  · exact c_X_perform_32 l D a sz pc ac lk mq ma mb ir sw io dl ha rd sn md kf kb cn pf co ou
  · exact c_X_perform_33 l D a sz pc ac lk mq ma mb ir sw io dl ha rd sn md kf kb cn pf co ou
  · exact c_X_perform_34 l D a sz pc ac lk mq ma mb ir sw io dl ha rd sn md kf kb cn pf co ou
  · exact c_X_perform_35 l D a sz pc ac lk mq ma mb ir sw io dl ha rd sn md kf kb cn pf co ou
  · exact c_X_perform_36 l D a sz pc ac lk mq ma mb ir sw io dl ha rd sn md kf kb cn pf co ou
  · exact c_X_perform_37 l D a sz pc ac lk mq ma mb ir sw io dl ha rd sn md kf kb cn pf co ou hn hcn (h37 rfl)
  · exact c_X_perform_40 l D a sz pc ac lk mq ma mb ir sw io dl ha rd sn md kf kb cn pf co ou
  · exact c_X_perform_41 l D a sz pc ac lk mq ma mb ir sw io dl ha rd sn md kf kb cn pf co ou

set_option maxHeartbeats 4000000 in
set_option maxRecDepth 100000 in
theorem c_X_microStep (l : Launch) (D : va_G) (a : AX) (sz : Nat) (pc ac lk mq ma mb ir sw io dl ha rd sn md kf kb cn pf : Int32) (co ou : Nat → Int32) (hsn : Sn sn) (hn : a.2.2.2.2.2.2.2 ≤ 100) (hcn : ∃ k : Nat, k ≤ a.2.2.2.2.2.2.2 ∧ cn = nI k) : MI l D (wx a) (tx a) sz yX_microStep cX_microStep 1 (some .int) 4 [.ref a.1] (pc, ac, lk, mq, ma, mb, ir, sw, io, dl, ha, rd, sn, md, kf, kb, cn, pf, co, ou) (fun r u => (r, u) = ms a.2.2.2.2.2.2.2 (pc, ac, lk, mq, ma, mb, ir, sw, io, dl, ha, rd, sn, md, kf, kb, cn, pf, co, ou)) := by
  refine en_i RX rfl (by decide) (Nat.le_of_ble_eq_true rfl) ?_
  intro p e s m below meth c A ls S hr hk hA hN hK hP hD hS hl
  have hl : lv_has ls 1 [(0, .ref a.1)] := hl
  refine lv_aload_n S.1 S.2.1 dX_microStep_0 rfl (lv_at hl 0 rfl) ?_
  refine g_X_X_hasMicrocode S hK hP dX_microStep_1 ?_
  refine lv_if_ne (tgt := 9) S.1 S.2.1 dX_microStep_4 (by decide) (fun g1 => ?_) (fun g1 => ?_)
  · refine lv_aload_n S.1 S.2.1 dX_microStep_9 rfl (lv_at hl 0 rfl) ?_
    refine g_X_X_stepNumber S hK hP dX_microStep_10 ?_
    refine lv_if_ne (tgt := 25) S.1 S.2.1 dX_microStep_13 (by decide) (fun g2 => ?_) (fun g2 => ?_)
    · refine lv_aload_n S.1 S.2.1 dX_microStep_25 rfl (lv_at hl 0 rfl) ?_
      refine g_X_X_stepNumber S hK hP dX_microStep_26 ?_
      refine lv_bipush (v := 37) S.1 S.2.1 dX_microStep_29 (by decide) ?_
      refine lv_icmp_ne (tgt := 46) S.1 S.2.1 dX_microStep_31 (by decide) (fun g3 => ?_) (fun g3 => ?_)
      · refine lv_aload_n S.1 S.2.1 dX_microStep_46 rfl (lv_at hl 0 rfl) ?_
        refine lv_aload_n S.1 S.2.1 dX_microStep_47 rfl (lv_at hl 0 rfl) ?_
        refine lv_aload_n S.1 S.2.1 dX_microStep_48 rfl (lv_at hl 0 rfl) ?_
        refine g_X_X_stepNumber S hK hP dX_microStep_49 ?_
        refine cl_i (As := [.int sn]) (rest := [.ref a.1]) S hN hK hP hD hS hA hl.1 (c_X_perform l D a _ pc ac lk mq ma mb ir sw io dl ha rd sn md kf kb cn pf co ou sn hsn hn hcn (fun z => absurd z g3)) k_X_105 (rc_X hK hP) ⟨by decide, by decide⟩ rfl rfl (Nat.le_of_ble_eq_true rfl) ⟨Nat.le_refl _, Nat.le_refl _⟩ dX_microStep_52 (fun r u H locs hw hP hD hS => ?_)
        obtain ⟨pc1, ac1, lk1, mq1, ma1, mb1, ir1, sw1, io1, dl1, ha1, rd1, sn1, md1, kf1, kb1, cn1, pf1, co1, ou1⟩ := u
        refine p_X_X_stepNumber S hK hP hD hS dX_microStep_55 (fun H locs hP hD hS => ?_)
        refine lv_aload_n S.1 S.2.1 dX_microStep_58 rfl (lv_at hl 0 rfl) ?_
        refine lv_dup S.1 S.2.1 dX_microStep_59 rfl ?_
        refine g_X_X_microstepsMade S hK hP dX_microStep_60 ?_
        refine lv_iconst (v := 1) S.1 S.2.1 dX_microStep_63 (by decide) ?_
        refine lv_iadd S.1 S.2.1 dX_microStep_64 ?_
        refine p_X_X_microstepsMade S hK hP hD hS dX_microStep_65 (fun H locs hP hD hS => ?_)
        refine lv_aload_n S.1 S.2.1 dX_microStep_68 rfl (lv_at hl 0 rfl) ?_
        refine g_X_X_stepNumber S hK hP dX_microStep_69 ?_
        refine lv_if_ne (tgt := 79) S.1 S.2.1 dX_microStep_72 (by decide) (fun g4 => ?_) (fun g4 => ?_)
        · refine lv_iconst (v := 0) S.1 S.2.1 dX_microStep_79 (by decide) ?_
          exact rt_i S hr hk hK hP hD hS ((by rw [ms_go (by simp [g1, g2, g3]) (by simp [g1, g2, g3]) (by simp [g1, g2, g3]), ← hw]; simp [fin_, g4])) dX_microStep_80
        · refine lv_iconst (v := 1) S.1 S.2.1 dX_microStep_75 (by decide) ?_
          refine lv_goto (tgt := 80) S.1 S.2.1 dX_microStep_76 (by decide) ?_
          exact rt_i S hr hk hK hP hD hS ((by rw [ms_go (by simp [g1, g2, g3]) (by simp [g1, g2, g3]) (by simp [g1, g2, g3]), ← hw]; simp [fin_, g4])) dX_microStep_80
      · refine lv_aload_n S.1 S.2.1 dX_microStep_34 rfl (lv_at hl 0 rfl) ?_
        refine g_X_X_printer S hK hP dX_microStep_35 ?_
        refine cl_iN (As := []) (rest := []) S hN hK hP hD hS hA hl.1 (c_P_isFull l D a _ pc ac lk mq ma mb ir sw io dl ha rd sn md kf kb cn pf co ou ) k_X_101 (nw_X_101 hN) (rc_P hK hP) ⟨by decide, by decide⟩ rfl rfl (Nat.le_of_ble_eq_true rfl) ⟨Nat.le_refl _, Nat.le_refl _⟩ dX_microStep_38 (fun r u H locs hw hP hD hS => ?_)
        obtain ⟨g5, rfl, rfl⟩ | ⟨g6, rfl, rfl⟩ := hw
        · refine lv_if_eq (tgt := 46) S.1 S.2.1 dX_microStep_41 (by decide) (fun _ => ?_) (fun g7 => absurd (by decide) g7)
          refine lv_aload_n S.1 S.2.1 dX_microStep_46 rfl (lv_at hl 0 rfl) ?_
          refine lv_aload_n S.1 S.2.1 dX_microStep_47 rfl (lv_at hl 0 rfl) ?_
          refine lv_aload_n S.1 S.2.1 dX_microStep_48 rfl (lv_at hl 0 rfl) ?_
          refine g_X_X_stepNumber S hK hP dX_microStep_49 ?_
          refine cl_i (As := [.int sn]) (rest := [.ref a.1]) S hN hK hP hD hS hA hl.1 (c_X_perform l D a _ pc ac lk mq ma mb ir sw io dl ha rd sn md kf kb cn pf co ou sn hsn hn hcn (fun _ => g5)) k_X_105 (rc_X hK hP) ⟨by decide, by decide⟩ rfl rfl (Nat.le_of_ble_eq_true rfl) ⟨Nat.le_refl _, Nat.le_refl _⟩ dX_microStep_52 (fun r u H locs hw hP hD hS => ?_)
          obtain ⟨pc3, ac3, lk3, mq3, ma3, mb3, ir3, sw3, io3, dl3, ha3, rd3, sn3, md3, kf3, kb3, cn3, pf3, co3, ou3⟩ := u
          refine p_X_X_stepNumber S hK hP hD hS dX_microStep_55 (fun H locs hP hD hS => ?_)
          refine lv_aload_n S.1 S.2.1 dX_microStep_58 rfl (lv_at hl 0 rfl) ?_
          refine lv_dup S.1 S.2.1 dX_microStep_59 rfl ?_
          refine g_X_X_microstepsMade S hK hP dX_microStep_60 ?_
          refine lv_iconst (v := 1) S.1 S.2.1 dX_microStep_63 (by decide) ?_
          refine lv_iadd S.1 S.2.1 dX_microStep_64 ?_
          refine p_X_X_microstepsMade S hK hP hD hS dX_microStep_65 (fun H locs hP hD hS => ?_)
          refine lv_aload_n S.1 S.2.1 dX_microStep_68 rfl (lv_at hl 0 rfl) ?_
          refine g_X_X_stepNumber S hK hP dX_microStep_69 ?_
          refine lv_if_ne (tgt := 79) S.1 S.2.1 dX_microStep_72 (by decide) (fun g8 => ?_) (fun g8 => ?_)
          · refine lv_iconst (v := 0) S.1 S.2.1 dX_microStep_79 (by decide) ?_
            exact rt_i S hr hk hK hP hD hS ((by rw [ms_go (by simp [g1, g2, g3, g5]) (by simp [g1, g2, g3, g5]) (by simp [g1, g2, g3, g5]), ← hw]; simp [fin_, g8])) dX_microStep_80
          · refine lv_iconst (v := 1) S.1 S.2.1 dX_microStep_75 (by decide) ?_
            refine lv_goto (tgt := 80) S.1 S.2.1 dX_microStep_76 (by decide) ?_
            exact rt_i S hr hk hK hP hD hS ((by rw [ms_go (by simp [g1, g2, g3, g5]) (by simp [g1, g2, g3, g5]) (by simp [g1, g2, g3, g5]), ← hw]; simp [fin_, g8])) dX_microStep_80
        · refine lv_if_eq (tgt := 46) S.1 S.2.1 dX_microStep_41 (by decide) (fun g9 => absurd g9 (by decide)) (fun _ => ?_)
          refine lv_iconst (v := 4) S.1 S.2.1 dX_microStep_44 (by decide) ?_
          exact rt_i S hr hk hK hP hD hS ((by simp [ms, g1, g2, g3, g6])) dX_microStep_45
    · refine lv_aload_n S.1 S.2.1 dX_microStep_16 rfl (lv_at hl 0 rfl) ?_
      refine g_X_X_halted S hK hP dX_microStep_17 ?_
      refine lv_if_eq (tgt := 25) S.1 S.2.1 dX_microStep_20 (by decide) (fun g10 => ?_) (fun g10 => ?_)
      · refine lv_aload_n S.1 S.2.1 dX_microStep_25 rfl (lv_at hl 0 rfl) ?_
        refine g_X_X_stepNumber S hK hP dX_microStep_26 ?_
        refine lv_bipush (v := 37) S.1 S.2.1 dX_microStep_29 (by decide) ?_
        refine lv_icmp_ne (tgt := 46) S.1 S.2.1 dX_microStep_31 (by decide) (fun _ => ?_) (fun g11 => absurd (g2.symm.trans g11) (by decide))
        refine lv_aload_n S.1 S.2.1 dX_microStep_46 rfl (lv_at hl 0 rfl) ?_
        refine lv_aload_n S.1 S.2.1 dX_microStep_47 rfl (lv_at hl 0 rfl) ?_
        refine lv_aload_n S.1 S.2.1 dX_microStep_48 rfl (lv_at hl 0 rfl) ?_
        refine g_X_X_stepNumber S hK hP dX_microStep_49 ?_
        refine cl_i (As := [.int sn]) (rest := [.ref a.1]) S hN hK hP hD hS hA hl.1 (c_X_perform l D a _ pc ac lk mq ma mb ir sw io dl ha rd sn md kf kb cn pf co ou sn hsn hn hcn (fun z => absurd (g2.symm.trans z) (by decide))) k_X_105 (rc_X hK hP) ⟨by decide, by decide⟩ rfl rfl (Nat.le_of_ble_eq_true rfl) ⟨Nat.le_refl _, Nat.le_refl _⟩ dX_microStep_52 (fun r u H locs hw hP hD hS => ?_)
        obtain ⟨pc5, ac5, lk5, mq5, ma5, mb5, ir5, sw5, io5, dl5, ha5, rd5, sn5, md5, kf5, kb5, cn5, pf5, co5, ou5⟩ := u
        refine p_X_X_stepNumber S hK hP hD hS dX_microStep_55 (fun H locs hP hD hS => ?_)
        refine lv_aload_n S.1 S.2.1 dX_microStep_58 rfl (lv_at hl 0 rfl) ?_
        refine lv_dup S.1 S.2.1 dX_microStep_59 rfl ?_
        refine g_X_X_microstepsMade S hK hP dX_microStep_60 ?_
        refine lv_iconst (v := 1) S.1 S.2.1 dX_microStep_63 (by decide) ?_
        refine lv_iadd S.1 S.2.1 dX_microStep_64 ?_
        refine p_X_X_microstepsMade S hK hP hD hS dX_microStep_65 (fun H locs hP hD hS => ?_)
        refine lv_aload_n S.1 S.2.1 dX_microStep_68 rfl (lv_at hl 0 rfl) ?_
        refine g_X_X_stepNumber S hK hP dX_microStep_69 ?_
        refine lv_if_ne (tgt := 79) S.1 S.2.1 dX_microStep_72 (by decide) (fun g12 => ?_) (fun g12 => ?_)
        · refine lv_iconst (v := 0) S.1 S.2.1 dX_microStep_79 (by decide) ?_
          exact rt_i S hr hk hK hP hD hS ((by rw [ms_go (by simp [g1, g2, g10]) (by simp [g1, g2, g10]) (by simp [g1, g2, g10]), ← hw]; simp [fin_, g12])) dX_microStep_80
        · refine lv_iconst (v := 1) S.1 S.2.1 dX_microStep_75 (by decide) ?_
          refine lv_goto (tgt := 80) S.1 S.2.1 dX_microStep_76 (by decide) ?_
          exact rt_i S hr hk hK hP hD hS ((by rw [ms_go (by simp [g1, g2, g10]) (by simp [g1, g2, g10]) (by simp [g1, g2, g10]), ← hw]; simp [fin_, g12])) dX_microStep_80
      · refine lv_iconst (v := 2) S.1 S.2.1 dX_microStep_23 (by decide) ?_
        exact rt_i S hr hk hK hP hD hS ((by simp [ms, g1, g2, g10])) dX_microStep_24
  · refine lv_iconst (v := 3) S.1 S.2.1 dX_microStep_7 (by decide) ?_
    exact rt_i S hr hk hK hP hD hS ((by simp [ms, g1])) dX_microStep_8
