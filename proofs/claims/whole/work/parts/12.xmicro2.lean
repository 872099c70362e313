set_option maxHeartbeats 4000000 in
set_option maxRecDepth 100000 in
theorem c_X_rotateFirst (l : Launch) (D : va_G) (a : AX) (sz : Nat) (pc ac lk mq ma mb ir sw io dl ha rd sn md kf kb cn pf : Int32) (co ou : Nat → Int32) : MI l D (wx a) (tx a) sz yX_rotateFirst cX_rotateFirst 1 (some .int) 2 [.ref a.1] (pc, ac, lk, mq, ma, mb, ir, sw, io, dl, ha, rd, sn, md, kf, kb, cn, pf, co, ou) (fun r u => (r, u) = mu24 (pc, ac, lk, mq, ma, mb, ir, sw, io, dl, ha, rd, sn, md, kf, kb, cn, pf, co, ou)) := by
  refine en_i RX rfl (by decide) (Nat.le_of_ble_eq_true rfl) ?_
  intro p e s m below meth c A ls S hr hk hA hN hK hP hD hS hl
  have hl : lv_has ls 1 [(0, .ref a.1)] := hl
  refine lv_aload_n S.1 S.2.1 dX_rotateFirst_0 rfl (lv_at hl 0 rfl) ?_
  refine cl_v (As := []) (rest := []) S hN hK hP hD hS hA hl.1 (c_X_rotate l D a _ pc ac lk mq ma mb ir sw io dl ha rd sn md kf kb cn pf co ou ) k_X_248 (rc_X hK hP) ⟨by decide, by decide⟩ rfl rfl (Nat.le_of_ble_eq_true rfl) ⟨Nat.le_refl _, Nat.le_refl _⟩ dX_rotateFirst_1 (fun u H locs hw hP hD hS => ?_)
  obtain ⟨g1, g2, rfl⟩ | ⟨g3, g4, rfl⟩ | ⟨g5, g6, rfl⟩ | ⟨g7, g8, rfl⟩ := hw
  · refine lv_aload_n S.1 S.2.1 dX_rotateFirst_4 rfl (lv_at hl 0 rfl) ?_
    refine lv_iconst (v := 2) S.1 S.2.1 dX_rotateFirst_5 (by decide) ?_
    refine cl_i (As := [.int 2]) (rest := []) S hN hK hP hD hS hA hl.1 (c_X_irHas l D a _ pc (((lk <<< ((12 : Int32) &&& 31)) ||| ac) &&& 4095) (((lk <<< ((12 : Int32) &&& 31)) ||| ac) >>> ((12 : Int32) &&& 31)) mq ma mb ir sw io dl ha rd sn md kf kb cn pf co ou 2) k_X_233 (rc_X hK hP) ⟨by decide, by decide⟩ rfl rfl (Nat.le_of_ble_eq_true rfl) ⟨Nat.le_refl _, Nat.le_refl _⟩ dX_rotateFirst_6 (fun r u H locs hw hP hD hS => ?_)
    obtain ⟨g9, rfl, rfl⟩ | ⟨g10, rfl, rfl⟩ := hw
    · refine lv_if_eq (tgt := 17) S.1 S.2.1 dX_rotateFirst_9 (by decide) (fun _ => ?_) (fun g11 => absurd (by decide) g11)
      refine lv_iconst (v := 0) S.1 S.2.1 dX_rotateFirst_17 (by decide) ?_
      exact rt_i S hr hk hK hP hD hS ((by simp [mu24, rg_, r1_, r2_, g1, g2, g9])) dX_rotateFirst_18
    · refine lv_if_eq (tgt := 17) S.1 S.2.1 dX_rotateFirst_9 (by decide) (fun g12 => absurd g12 (by decide)) (fun _ => ?_)
      refine lv_bipush (v := 25) S.1 S.2.1 dX_rotateFirst_12 (by decide) ?_
      refine lv_goto (tgt := 18) S.1 S.2.1 dX_rotateFirst_14 (by decide) ?_
      exact rt_i S hr hk hK hP hD hS ((by simp [mu24, rg_, r1_, r2_, g1, g2, g10])) dX_rotateFirst_18
  · refine lv_aload_n S.1 S.2.1 dX_rotateFirst_4 rfl (lv_at hl 0 rfl) ?_
    refine lv_iconst (v := 2) S.1 S.2.1 dX_rotateFirst_5 (by decide) ?_
    refine cl_i (As := [.int 2]) (rest := []) S hN hK hP hD hS hA hl.1 (c_X_irHas l D a _ pc ((((((lk <<< ((12 : Int32) &&& 31)) ||| ac) <<< ((1 : Int32) &&& 31)) ||| (((lk <<< ((12 : Int32) &&& 31)) ||| ac) >>> ((12 : Int32) &&& 31))) &&& 8191) &&& 4095) ((((((lk <<< ((12 : Int32) &&& 31)) ||| ac) <<< ((1 : Int32) &&& 31)) ||| (((lk <<< ((12 : Int32) &&& 31)) ||| ac) >>> ((12 : Int32) &&& 31))) &&& 8191) >>> ((12 : Int32) &&& 31)) mq ma mb ir sw io dl ha rd sn md kf kb cn pf co ou 2) k_X_233 (rc_X hK hP) ⟨by decide, by decide⟩ rfl rfl (Nat.le_of_ble_eq_true rfl) ⟨Nat.le_refl _, Nat.le_refl _⟩ dX_rotateFirst_6 (fun r u H locs hw hP hD hS => ?_)
    obtain ⟨g13, rfl, rfl⟩ | ⟨g14, rfl, rfl⟩ := hw
    · refine lv_if_eq (tgt := 17) S.1 S.2.1 dX_rotateFirst_9 (by decide) (fun _ => ?_) (fun g15 => absurd (by decide) g15)
      refine lv_iconst (v := 0) S.1 S.2.1 dX_rotateFirst_17 (by decide) ?_
      exact rt_i S hr hk hK hP hD hS ((by simp [mu24, rg_, r1_, r2_, g3, g4, g13])) dX_rotateFirst_18
    · refine lv_if_eq (tgt := 17) S.1 S.2.1 dX_rotateFirst_9 (by decide) (fun g16 => absurd g16 (by decide)) (fun _ => ?_)
      refine lv_bipush (v := 25) S.1 S.2.1 dX_rotateFirst_12 (by decide) ?_
      refine lv_goto (tgt := 18) S.1 S.2.1 dX_rotateFirst_14 (by decide) ?_
      exact rt_i S hr hk hK hP hD hS ((by simp [mu24, rg_, r1_, r2_, g3, g4, g14])) dX_rotateFirst_18
  · refine lv_aload_n S.1 S.2.1 dX_rotateFirst_4 rfl (lv_at hl 0 rfl) ?_
    refine lv_iconst (v := 2) S.1 S.2.1 dX_rotateFirst_5 (by decide) ?_
    refine cl_i (As := [.int 2]) (rest := []) S hN hK hP hD hS hA hl.1 (c_X_irHas l D a _ pc (((((lk <<< ((12 : Int32) &&& 31)) ||| ac) >>> ((1 : Int32) &&& 31)) ||| ((((lk <<< ((12 : Int32) &&& 31)) ||| ac) &&& 1) <<< ((12 : Int32) &&& 31))) &&& 4095) (((((lk <<< ((12 : Int32) &&& 31)) ||| ac) >>> ((1 : Int32) &&& 31)) ||| ((((lk <<< ((12 : Int32) &&& 31)) ||| ac) &&& 1) <<< ((12 : Int32) &&& 31))) >>> ((12 : Int32) &&& 31)) mq ma mb ir sw io dl ha rd sn md kf kb cn pf co ou 2) k_X_233 (rc_X hK hP) ⟨by decide, by decide⟩ rfl rfl (Nat.le_of_ble_eq_true rfl) ⟨Nat.le_refl _, Nat.le_refl _⟩ dX_rotateFirst_6 (fun r u H locs hw hP hD hS => ?_)
    obtain ⟨g17, rfl, rfl⟩ | ⟨g18, rfl, rfl⟩ := hw
    · refine lv_if_eq (tgt := 17) S.1 S.2.1 dX_rotateFirst_9 (by decide) (fun _ => ?_) (fun g19 => absurd (by decide) g19)
      refine lv_iconst (v := 0) S.1 S.2.1 dX_rotateFirst_17 (by decide) ?_
      exact rt_i S hr hk hK hP hD hS ((by simp [mu24, rg_, r1_, r2_, g5, g6, g17])) dX_rotateFirst_18
    · refine lv_if_eq (tgt := 17) S.1 S.2.1 dX_rotateFirst_9 (by decide) (fun g20 => absurd g20 (by decide)) (fun _ => ?_)
      refine lv_bipush (v := 25) S.1 S.2.1 dX_rotateFirst_12 (by decide) ?_
      refine lv_goto (tgt := 18) S.1 S.2.1 dX_rotateFirst_14 (by decide) ?_
      exact rt_i S hr hk hK hP hD hS ((by simp [mu24, rg_, r1_, r2_, g5, g6, g18])) dX_rotateFirst_18
  · refine lv_aload_n S.1 S.2.1 dX_rotateFirst_4 rfl (lv_at hl 0 rfl) ?_
    refine lv_iconst (v := 2) S.1 S.2.1 dX_rotateFirst_5 (by decide) ?_
    refine cl_i (As := [.int 2]) (rest := []) S hN hK hP hD hS hA hl.1 (c_X_irHas l D a _ pc ((((((((lk <<< ((12 : Int32) &&& 31)) ||| ac) >>> ((1 : Int32) &&& 31)) ||| ((((lk <<< ((12 : Int32) &&& 31)) ||| ac) &&& 1) <<< ((12 : Int32) &&& 31))) <<< ((1 : Int32) &&& 31)) ||| (((((lk <<< ((12 : Int32) &&& 31)) ||| ac) >>> ((1 : Int32) &&& 31)) ||| ((((lk <<< ((12 : Int32) &&& 31)) ||| ac) &&& 1) <<< ((12 : Int32) &&& 31))) >>> ((12 : Int32) &&& 31))) &&& 8191) &&& 4095) ((((((((lk <<< ((12 : Int32) &&& 31)) ||| ac) >>> ((1 : Int32) &&& 31)) ||| ((((lk <<< ((12 : Int32) &&& 31)) ||| ac) &&& 1) <<< ((12 : Int32) &&& 31))) <<< ((1 : Int32) &&& 31)) ||| (((((lk <<< ((12 : Int32) &&& 31)) ||| ac) >>> ((1 : Int32) &&& 31)) ||| ((((lk <<< ((12 : Int32) &&& 31)) ||| ac) &&& 1) <<< ((12 : Int32) &&& 31))) >>> ((12 : Int32) &&& 31))) &&& 8191) >>> ((12 : Int32) &&& 31)) mq ma mb ir sw io dl ha rd sn md kf kb cn pf co ou 2) k_X_233 (rc_X hK hP) ⟨by decide, by decide⟩ rfl rfl (Nat.le_of_ble_eq_true rfl) ⟨Nat.le_refl _, Nat.le_refl _⟩ dX_rotateFirst_6 (fun r u H locs hw hP hD hS => ?_)
    obtain ⟨g21, rfl, rfl⟩ | ⟨g22, rfl, rfl⟩ := hw
    · refine lv_if_eq (tgt := 17) S.1 S.2.1 dX_rotateFirst_9 (by decide) (fun _ => ?_) (fun g23 => absurd (by decide) g23)
      refine lv_iconst (v := 0) S.1 S.2.1 dX_rotateFirst_17 (by decide) ?_
      exact rt_i S hr hk hK hP hD hS ((by simp [mu24, rg_, r1_, r2_, g7, g8, g21])) dX_rotateFirst_18
    · refine lv_if_eq (tgt := 17) S.1 S.2.1 dX_rotateFirst_9 (by decide) (fun g24 => absurd g24 (by decide)) (fun _ => ?_)
      refine lv_bipush (v := 25) S.1 S.2.1 dX_rotateFirst_12 (by decide) ?_
      refine lv_goto (tgt := 18) S.1 S.2.1 dX_rotateFirst_14 (by decide) ?_
      exact rt_i S hr hk hK hP hD hS ((by simp [mu24, rg_, r1_, r2_, g7, g8, g22])) dX_rotateFirst_18

set_option maxHeartbeats 4000000 in
set_option maxRecDepth 100000 in
theorem c_X_rotateLast (l : Launch) (D : va_G) (a : AX) (sz : Nat) (pc ac lk mq ma mb ir sw io dl ha rd sn md kf kb cn pf : Int32) (co ou : Nat → Int32) : MI l D (wx a) (tx a) sz yX_rotateLast cX_rotateLast 1 (some .int) 2 [.ref a.1] (pc, ac, lk, mq, ma, mb, ir, sw, io, dl, ha, rd, sn, md, kf, kb, cn, pf, co, ou) (fun r u => (r, u) = mu25 (pc, ac, lk, mq, ma, mb, ir, sw, io, dl, ha, rd, sn, md, kf, kb, cn, pf, co, ou)) := by
  refine en_i RX rfl (by decide) (Nat.le_of_ble_eq_true rfl) ?_
  intro p e s m below meth c A ls S hr hk hA hN hK hP hD hS hl
  have hl : lv_has ls 1 [(0, .ref a.1)] := hl
  refine lv_aload_n S.1 S.2.1 dX_rotateLast_0 rfl (lv_at hl 0 rfl) ?_
  refine cl_v (As := []) (rest := []) S hN hK hP hD hS hA hl.1 (c_X_rotate l D a _ pc ac lk mq ma mb ir sw io dl ha rd sn md kf kb cn pf co ou ) k_X_248 (rc_X hK hP) ⟨by decide, by decide⟩ rfl rfl (Nat.le_of_ble_eq_true rfl) ⟨Nat.le_refl _, Nat.le_refl _⟩ dX_rotateLast_1 (fun u H locs hw hP hD hS => ?_)
  obtain ⟨g1, g2, rfl⟩ | ⟨g3, g4, rfl⟩ | ⟨g5, g6, rfl⟩ | ⟨g7, g8, rfl⟩ := hw
  · refine lv_iconst (v := 0) S.1 S.2.1 dX_rotateLast_4 (by decide) ?_
    exact rt_i S hr hk hK hP hD hS ((by simp [mu25, rg_, r1_, r2_, g1, g2])) dX_rotateLast_5
  · refine lv_iconst (v := 0) S.1 S.2.1 dX_rotateLast_4 (by decide) ?_
    exact rt_i S hr hk hK hP hD hS ((by simp [mu25, rg_, r1_, r2_, g3, g4])) dX_rotateLast_5
  · refine lv_iconst (v := 0) S.1 S.2.1 dX_rotateLast_4 (by decide) ?_
    exact rt_i S hr hk hK hP hD hS ((by simp [mu25, rg_, r1_, r2_, g5, g6])) dX_rotateLast_5
  · refine lv_iconst (v := 0) S.1 S.2.1 dX_rotateLast_4 (by decide) ?_
    exact rt_i S hr hk hK hP hD hS ((by simp [mu25, rg_, r1_, r2_, g7, g8])) dX_rotateLast_5

set_option maxHeartbeats 4000000 in
set_option maxRecDepth 100000 in
theorem c_X_test (l : Launch) (D : va_G) (a : AX) (sz : Nat) (pc ac lk mq ma mb ir sw io dl ha rd sn md kf kb cn pf : Int32) (co ou : Nat → Int32) : MI l D (wx a) (tx a) sz yX_test cX_test 2 (some .int) 1 [.ref a.1] (pc, ac, lk, mq, ma, mb, ir, sw, io, dl, ha, rd, sn, md, kf, kb, cn, pf, co, ou) (fun r u => (r, u) = mu26 (pc, ac, lk, mq, ma, mb, ir, sw, io, dl, ha, rd, sn, md, kf, kb, cn, pf, co, ou)) := by
  refine en_i RX rfl (by decide) (Nat.le_of_ble_eq_true rfl) ?_
  intro p e s m below meth c A ls S hr hk hA hN hK hP hD hS hl
  have hl : lv_has ls 2 [(0, .ref a.1)] := hl
  refine lv_aload_n S.1 S.2.1 dX_test_0 rfl (lv_at hl 0 rfl) ?_
  refine lv_bipush (v := 64) S.1 S.2.1 dX_test_1 (by decide) ?_
  refine cl_i (As := [.int 64]) (rest := []) S hN hK hP hD hS hA hl.1 (c_X_irHas l D a _ pc ac lk mq ma mb ir sw io dl ha rd sn md kf kb cn pf co ou 64) k_X_233 (rc_X hK hP) ⟨by decide, by decide⟩ rfl rfl (Nat.le_of_ble_eq_true rfl) ⟨Nat.le_refl _, Nat.le_refl _⟩ dX_test_3 (fun r u H locs hw hP hD hS => ?_)
  obtain ⟨g1, rfl, rfl⟩ | ⟨g2, rfl, rfl⟩ := hw
  · refine lv_if_eq (tgt := 19) S.1 S.2.1 dX_test_6 (by decide) (fun _ => ?_) (fun g3 => absurd (by decide) g3)
    refine lv_aload_n S.1 S.2.1 dX_test_19 rfl (lv_at hl 0 rfl) ?_
    refine lv_bipush (v := 32) S.1 S.2.1 dX_test_20 (by decide) ?_
    refine cl_i (As := [.int 32]) (rest := []) S hN hK hP hD hS hA hl.1 (c_X_irHas l D a _ pc ac lk mq ma mb ir sw io dl ha rd sn md kf kb cn pf co ou 32) k_X_233 (rc_X hK hP) ⟨by decide, by decide⟩ rfl rfl (Nat.le_of_ble_eq_true rfl) ⟨Nat.le_refl _, Nat.le_refl _⟩ dX_test_22 (fun r u H locs hw hP hD hS => ?_)
    obtain ⟨g4, rfl, rfl⟩ | ⟨g5, rfl, rfl⟩ := hw
    · refine lv_if_eq (tgt := 35) S.1 S.2.1 dX_test_25 (by decide) (fun _ => ?_) (fun g6 => absurd (by decide) g6)
      refine lv_aload_n S.1 S.2.1 dX_test_35 rfl (lv_at hl 0 rfl) ?_
      refine lv_bipush (v := 16) S.1 S.2.1 dX_test_36 (by decide) ?_
      refine cl_i (As := [.int 16]) (rest := []) S hN hK hP hD hS hA hl.1 (c_X_irHas l D a _ pc ac lk mq ma mb ir sw io dl ha rd sn md kf kb cn pf co ou 16) k_X_233 (rc_X hK hP) ⟨by decide, by decide⟩ rfl rfl (Nat.le_of_ble_eq_true rfl) ⟨Nat.le_refl _, Nat.le_refl _⟩ dX_test_38 (fun r u H locs hw hP hD hS => ?_)
      obtain ⟨g7, rfl, rfl⟩ | ⟨g8, rfl, rfl⟩ := hw
      · refine lv_if_eq (tgt := 56) S.1 S.2.1 dX_test_41 (by decide) (fun _ => ?_) (fun g9 => absurd (by decide) g9)
        refine lv_iconst (v := 0) S.1 S.2.1 dX_test_56 (by decide) ?_
        refine lv_istore_n S.1 S.2.1 dX_test_57 rfl hl (by decide) rfl (fun ls hl => ?_)
        have hl : lv_has ls 2 [(1, .int 0), (0, .ref a.1)] := hl
        refine lv_iload_n S.1 S.2.1 dX_test_58 rfl (lv_at hl 0 rfl) ?_
        refine lv_aload_n S.1 S.2.1 dX_test_59 rfl (lv_at hl 1 rfl) ?_
        refine lv_bipush (v := 8) S.1 S.2.1 dX_test_60 (by decide) ?_
        refine cl_i (As := [.int 8]) (rest := [.int 0]) S hN hK hP hD hS hA hl.1 (c_X_irHas l D a _ pc ac lk mq ma mb ir sw io dl ha rd sn md kf kb cn pf co ou 8) k_X_233 (rc_X hK hP) ⟨by decide, by decide⟩ rfl rfl (Nat.le_of_ble_eq_true rfl) ⟨Nat.le_refl _, Nat.le_refl _⟩ dX_test_62 (fun r u H locs hw hP hD hS => ?_)
        obtain ⟨g10, rfl, rfl⟩ | ⟨g11, rfl, rfl⟩ := hw
        · refine lv_icmp_eq (tgt := 72) S.1 S.2.1 dX_test_65 (by decide) (fun _ => ?_) (fun g12 => absurd (by decide) g12)
          refine lv_bipush (v := 27) S.1 S.2.1 dX_test_72 (by decide) ?_
          exact rt_i S hr hk hK hP hD hS ((by simp [mu26, g1, g4, g7, g10])) dX_test_74
        · refine lv_icmp_eq (tgt := 72) S.1 S.2.1 dX_test_65 (by decide) (fun g13 => absurd g13 (by decide)) (fun _ => ?_)
          refine lv_aload_n S.1 S.2.1 dX_test_68 rfl (lv_at hl 1 rfl) ?_
          refine cl_v (As := []) (rest := []) S hN hK hP hD hS hA hl.1 (c_X_advancePc l D a _ pc ac lk mq ma mb ir sw io dl ha rd sn md kf kb cn pf co ou ) k_X_230 (rc_X hK hP) ⟨by decide, by decide⟩ rfl rfl (Nat.le_of_ble_eq_true rfl) ⟨Nat.le_refl _, Nat.le_refl _⟩ dX_test_69 (fun u H locs hw hP hD hS => ?_)
          obtain rfl := hw
          refine lv_bipush (v := 27) S.1 S.2.1 dX_test_72 (by decide) ?_
          exact rt_i S hr hk hK hP hD hS ((by simp [mu26, g1, g4, g7, g11])) dX_test_74
      · refine lv_if_eq (tgt := 56) S.1 S.2.1 dX_test_41 (by decide) (fun g14 => absurd g14 (by decide)) (fun _ => ?_)
        refine lv_aload_n S.1 S.2.1 dX_test_44 rfl (lv_at hl 0 rfl) ?_
        refine g_X_X_link S hK hP dX_test_45 ?_
        refine lv_iconst (v := 1) S.1 S.2.1 dX_test_48 (by decide) ?_
        refine lv_icmp_ne (tgt := 56) S.1 S.2.1 dX_test_49 (by decide) (fun g15 => ?_) (fun g15 => ?_)
        · refine lv_iconst (v := 0) S.1 S.2.1 dX_test_56 (by decide) ?_
          refine lv_istore_n S.1 S.2.1 dX_test_57 rfl hl (by decide) rfl (fun ls hl => ?_)
          have hl : lv_has ls 2 [(1, .int 0), (0, .ref a.1)] := hl
          refine lv_iload_n S.1 S.2.1 dX_test_58 rfl (lv_at hl 0 rfl) ?_
          refine lv_aload_n S.1 S.2.1 dX_test_59 rfl (lv_at hl 1 rfl) ?_
          refine lv_bipush (v := 8) S.1 S.2.1 dX_test_60 (by decide) ?_
          refine cl_i (As := [.int 8]) (rest := [.int 0]) S hN hK hP hD hS hA hl.1 (c_X_irHas l D a _ pc ac lk mq ma mb ir sw io dl ha rd sn md kf kb cn pf co ou 8) k_X_233 (rc_X hK hP) ⟨by decide, by decide⟩ rfl rfl (Nat.le_of_ble_eq_true rfl) ⟨Nat.le_refl _, Nat.le_refl _⟩ dX_test_62 (fun r u H locs hw hP hD hS => ?_)
          obtain ⟨g16, rfl, rfl⟩ | ⟨g17, rfl, rfl⟩ := hw
          · refine lv_icmp_eq (tgt := 72) S.1 S.2.1 dX_test_65 (by decide) (fun _ => ?_) (fun g18 => absurd (by decide) g18)
            refine lv_bipush (v := 27) S.1 S.2.1 dX_test_72 (by decide) ?_
            exact rt_i S hr hk hK hP hD hS ((by simp [mu26, g1, g4, g8, g15, g16])) dX_test_74
          · refine lv_icmp_eq (tgt := 72) S.1 S.2.1 dX_test_65 (by decide) (fun g19 => absurd g19 (by decide)) (fun _ => ?_)
            refine lv_aload_n S.1 S.2.1 dX_test_68 rfl (lv_at hl 1 rfl) ?_
            refine cl_v (As := []) (rest := []) S hN hK hP hD hS hA hl.1 (c_X_advancePc l D a _ pc ac lk mq ma mb ir sw io dl ha rd sn md kf kb cn pf co ou ) k_X_230 (rc_X hK hP) ⟨by decide, by decide⟩ rfl rfl (Nat.le_of_ble_eq_true rfl) ⟨Nat.le_refl _, Nat.le_refl _⟩ dX_test_69 (fun u H locs hw hP hD hS => ?_)
            obtain rfl := hw
            refine lv_bipush (v := 27) S.1 S.2.1 dX_test_72 (by decide) ?_
            exact rt_i S hr hk hK hP hD hS ((by simp [mu26, g1, g4, g8, g15, g17])) dX_test_74
        · refine lv_iconst (v := 1) S.1 S.2.1 dX_test_52 (by decide) ?_
          refine lv_goto (tgt := 57) S.1 S.2.1 dX_test_53 (by decide) ?_
          refine lv_istore_n S.1 S.2.1 dX_test_57 rfl hl (by decide) rfl (fun ls hl => ?_)
          have hl : lv_has ls 2 [(1, .int 1), (0, .ref a.1)] := hl
          refine lv_iload_n S.1 S.2.1 dX_test_58 rfl (lv_at hl 0 rfl) ?_
          refine lv_aload_n S.1 S.2.1 dX_test_59 rfl (lv_at hl 1 rfl) ?_
          refine lv_bipush (v := 8) S.1 S.2.1 dX_test_60 (by decide) ?_
          refine cl_i (As := [.int 8]) (rest := [.int 1]) S hN hK hP hD hS hA hl.1 (c_X_irHas l D a _ pc ac lk mq ma mb ir sw io dl ha rd sn md kf kb cn pf co ou 8) k_X_233 (rc_X hK hP) ⟨by decide, by decide⟩ rfl rfl (Nat.le_of_ble_eq_true rfl) ⟨Nat.le_refl _, Nat.le_refl _⟩ dX_test_62 (fun r u H locs hw hP hD hS => ?_)
          obtain ⟨g20, rfl, rfl⟩ | ⟨g21, rfl, rfl⟩ := hw
          · refine lv_icmp_eq (tgt := 72) S.1 S.2.1 dX_test_65 (by decide) (fun g22 => absurd g22 (by decide)) (fun _ => ?_)
            refine lv_aload_n S.1 S.2.1 dX_test_68 rfl (lv_at hl 1 rfl) ?_
            refine cl_v (As := []) (rest := []) S hN hK hP hD hS hA hl.1 (c_X_advancePc l D a _ pc ac lk mq ma mb ir sw io dl ha rd sn md kf kb cn pf co ou ) k_X_230 (rc_X hK hP) ⟨by decide, by decide⟩ rfl rfl (Nat.le_of_ble_eq_true rfl) ⟨Nat.le_refl _, Nat.le_refl _⟩ dX_test_69 (fun u H locs hw hP hD hS => ?_)
            obtain rfl := hw
            refine lv_bipush (v := 27) S.1 S.2.1 dX_test_72 (by decide) ?_
            exact rt_i S hr hk hK hP hD hS ((by simp [mu26, g1, g4, g8, g15, g20])) dX_test_74
          · refine lv_icmp_eq (tgt := 72) S.1 S.2.1 dX_test_65 (by decide) (fun _ => ?_) (fun g23 => absurd (by decide) g23)
            refine lv_bipush (v := 27) S.1 S.2.1 dX_test_72 (by decide) ?_
            exact rt_i S hr hk hK hP hD hS ((by simp [mu26, g1, g4, g8, g15, g21])) dX_test_74
    · refine lv_if_eq (tgt := 35) S.1 S.2.1 dX_test_25 (by decide) (fun g24 => absurd g24 (by decide)) (fun _ => ?_)
      refine lv_aload_n S.1 S.2.1 dX_test_28 rfl (lv_at hl 0 rfl) ?_
      refine g_X_X_ac S hK hP dX_test_29 ?_
      refine lv_if_eq (tgt := 52) S.1 S.2.1 dX_test_32 (by decide) (fun g25 => ?_) (fun g25 => ?_)
      · refine lv_iconst (v := 1) S.1 S.2.1 dX_test_52 (by decide) ?_
        refine lv_goto (tgt := 57) S.1 S.2.1 dX_test_53 (by decide) ?_
        refine lv_istore_n S.1 S.2.1 dX_test_57 rfl hl (by decide) rfl (fun ls hl => ?_)
        have hl : lv_has ls 2 [(1, .int 1), (0, .ref a.1)] := hl
        refine lv_iload_n S.1 S.2.1 dX_test_58 rfl (lv_at hl 0 rfl) ?_
        refine lv_aload_n S.1 S.2.1 dX_test_59 rfl (lv_at hl 1 rfl) ?_
        refine lv_bipush (v := 8) S.1 S.2.1 dX_test_60 (by decide) ?_
        refine cl_i (As := [.int 8]) (rest := [.int 1]) S hN hK hP hD hS hA hl.1 (c_X_irHas l D a _ pc ac lk mq ma mb ir sw io dl ha rd sn md kf kb cn pf co ou 8) k_X_233 (rc_X hK hP) ⟨by decide, by decide⟩ rfl rfl (Nat.le_of_ble_eq_true rfl) ⟨Nat.le_refl _, Nat.le_refl _⟩ dX_test_62 (fun r u H locs hw hP hD hS => ?_)
        obtain ⟨g26, rfl, rfl⟩ | ⟨g27, rfl, rfl⟩ := hw
        · refine lv_icmp_eq (tgt := 72) S.1 S.2.1 dX_test_65 (by decide) (fun g28 => absurd g28 (by decide)) (fun _ => ?_)
          refine lv_aload_n S.1 S.2.1 dX_test_68 rfl (lv_at hl 1 rfl) ?_
          refine cl_v (As := []) (rest := []) S hN hK hP hD hS hA hl.1 (c_X_advancePc l D a _ pc ac lk mq ma mb ir sw io dl ha rd sn md kf kb cn pf co ou ) k_X_230 (rc_X hK hP) ⟨by decide, by decide⟩ rfl rfl (Nat.le_of_ble_eq_true rfl) ⟨Nat.le_refl _, Nat.le_refl _⟩ dX_test_69 (fun u H locs hw hP hD hS => ?_)
          obtain rfl := hw
          refine lv_bipush (v := 27) S.1 S.2.1 dX_test_72 (by decide) ?_
          exact rt_i S hr hk hK hP hD hS ((by simp [mu26, g1, g5, g25, g26])) dX_test_74
        · refine lv_icmp_eq (tgt := 72) S.1 S.2.1 dX_test_65 (by decide) (fun _ => ?_) (fun g29 => absurd (by decide) g29)
          refine lv_bipush (v := 27) S.1 S.2.1 dX_test_72 (by decide) ?_
          exact rt_i S hr hk hK hP hD hS ((by simp [mu26, g1, g5, g25, g27])) dX_test_74
      · refine lv_aload_n S.1 S.2.1 dX_test_35 rfl (lv_at hl 0 rfl) ?_
        refine lv_bipush (v := 16) S.1 S.2.1 dX_test_36 (by decide) ?_
        refine cl_i (As := [.int 16]) (rest := []) S hN hK hP hD hS hA hl.1 (c_X_irHas l D a _ pc ac lk mq ma mb ir sw io dl ha rd sn md kf kb cn pf co ou 16) k_X_233 (rc_X hK hP) ⟨by decide, by decide⟩ rfl rfl (Nat.le_of_ble_eq_true rfl) ⟨Nat.le_refl _, Nat.le_refl _⟩ dX_test_38 (fun r u H locs hw hP hD hS => ?_)
        obtain ⟨g30, rfl, rfl⟩ | ⟨g31, rfl, rfl⟩ := hw
        · refine lv_if_eq (tgt := 56) S.1 S.2.1 dX_test_41 (by decide) (fun _ => ?_) (fun g32 => absurd (by decide) g32)
          refine lv_iconst (v := 0) S.1 S.2.1 dX_test_56 (by decide) ?_
          refine lv_istore_n S.1 S.2.1 dX_test_57 rfl hl (by decide) rfl (fun ls hl => ?_)
          have hl : lv_has ls 2 [(1, .int 0), (0, .ref a.1)] := hl
          refine lv_iload_n S.1 S.2.1 dX_test_58 rfl (lv_at hl 0 rfl) ?_
          refine lv_aload_n S.1 S.2.1 dX_test_59 rfl (lv_at hl 1 rfl) ?_
          refine lv_bipush (v := 8) S.1 S.2.1 dX_test_60 (by decide) ?_
          refine cl_i (As := [.int 8]) (rest := [.int 0]) S hN hK hP hD hS hA hl.1 (c_X_irHas l D a _ pc ac lk mq ma mb ir sw io dl ha rd sn md kf kb cn pf co ou 8) k_X_233 (rc_X hK hP) ⟨by decide, by decide⟩ rfl rfl (Nat.le_of_ble_eq_true rfl) ⟨Nat.le_refl _, Nat.le_refl _⟩ dX_test_62 (fun r u H locs hw hP hD hS => ?_)
          obtain ⟨g33, rfl, rfl⟩ | ⟨g34, rfl, rfl⟩ := hw
          · refine lv_icmp_eq (tgt := 72) S.1 S.2.1 dX_test_65 (by decide) (fun _ => ?_) (fun g35 => absurd (by decide) g35)
            refine lv_bipush (v := 27) S.1 S.2.1 dX_test_72 (by decide) ?_
            exact rt_i S hr hk hK hP hD hS ((by simp [mu26, g1, g5, g25, g30, g33])) dX_test_74
          · refine lv_icmp_eq (tgt := 72) S.1 S.2.1 dX_test_65 (by decide) (fun g36 => absurd g36 (by decide)) (fun _ => ?_)
            refine lv_aload_n S.1 S.2.1 dX_test_68 rfl (lv_at hl 1 rfl) ?_
            refine cl_v (As := []) (rest := []) S hN hK hP hD hS hA hl.1 (c_X_advancePc l D a _ pc ac lk mq ma mb ir sw io dl ha rd sn md kf kb cn pf co ou ) k_X_230 (rc_X hK hP) ⟨by decide, by decide⟩ rfl rfl (Nat.le_of_ble_eq_true rfl) ⟨Nat.le_refl _, Nat.le_refl _⟩ dX_test_69 (fun u H locs hw hP hD hS => ?_)
            obtain rfl := hw
            refine lv_bipush (v := 27) S.1 S.2.1 dX_test_72 (by decide) ?_
            exact rt_i S hr hk hK hP hD hS ((by simp [mu26, g1, g5, g25, g30, g34])) dX_test_74
        · refine lv_if_eq (tgt := 56) S.1 S.2.1 dX_test_41 (by decide) (fun g37 => absurd g37 (by decide)) (fun _ => ?_)
          refine lv_aload_n S.1 S.2.1 dX_test_44 rfl (lv_at hl 0 rfl) ?_
          refine g_X_X_link S hK hP dX_test_45 ?_
          refine lv_iconst (v := 1) S.1 S.2.1 dX_test_48 (by decide) ?_
          refine lv_icmp_ne (tgt := 56) S.1 S.2.1 dX_test_49 (by decide) (fun g38 => ?_) (fun g38 => ?_)
          · refine lv_iconst (v := 0) S.1 S.2.1 dX_test_56 (by decide) ?_
            refine lv_istore_n S.1 S.2.1 dX_test_57 rfl hl (by decide) rfl (fun ls hl => ?_)
            have hl : lv_has ls 2 [(1, .int 0), (0, .ref a.1)] := hl
            refine lv_iload_n S.1 S.2.1 dX_test_58 rfl (lv_at hl 0 rfl) ?_
            refine lv_aload_n S.1 S.2.1 dX_test_59 rfl (lv_at hl 1 rfl) ?_
            refine lv_bipush (v := 8) S.1 S.2.1 dX_test_60 (by decide) ?_
            refine cl_i (As := [.int 8]) (rest := [.int 0]) S hN hK hP hD hS hA hl.1 (c_X_irHas l D a _ pc ac lk mq ma mb ir sw io dl ha rd sn md kf kb cn pf co ou 8) k_X_233 (rc_X hK hP) ⟨by decide, by decide⟩ rfl rfl (Nat.le_of_ble_eq_true rfl) ⟨Nat.le_refl _, Nat.le_refl _⟩ dX_test_62 (fun r u H locs hw hP hD hS => ?_)
            obtain ⟨g39, rfl, rfl⟩ | ⟨g40, rfl, rfl⟩ := hw
            · refine lv_icmp_eq (tgt := 72) S.1 S.2.1 dX_test_65 (by decide) (fun _ => ?_) (fun g41 => absurd (by decide) g41)
              refine lv_bipush (v := 27) S.1 S.2.1 dX_test_72 (by decide) ?_
              exact rt_i S hr hk hK hP hD hS ((by simp [mu26, g1, g5, g25, g31, g38, g39])) dX_test_74
            · refine lv_icmp_eq (tgt := 72) S.1 S.2.1 dX_test_65 (by decide) (fun g42 => absurd g42 (by decide)) (fun _ => ?_)
              refine lv_aload_n S.1 S.2.1 dX_test_68 rfl (lv_at hl 1 rfl) ?_
              refine cl_v (As := []) (rest := []) S hN hK hP hD hS hA hl.1 (c_X_advancePc l D a _ pc ac lk mq ma mb ir sw io dl ha rd sn md kf kb cn pf co ou ) k_X_230 (rc_X hK hP) ⟨by decide, by decide⟩ rfl rfl (Nat.le_of_ble_eq_true rfl) ⟨Nat.le_refl _, Nat.le_refl _⟩ dX_test_69 (fun u H locs hw hP hD hS => ?_)
              obtain rfl := hw
              refine lv_bipush (v := 27) S.1 S.2.1 dX_test_72 (by decide) ?_
              exact rt_i S hr hk hK hP hD hS ((by simp [mu26, g1, g5, g25, g31, g38, g40])) dX_test_74
          · refine lv_iconst (v := 1) S.1 S.2.1 dX_test_52 (by decide) ?_
            refine lv_goto (tgt := 57) S.1 S.2.1 dX_test_53 (by decide) ?_
            refine lv_istore_n S.1 S.2.1 dX_test_57 rfl hl (by decide) rfl (fun ls hl => ?_)
            have hl : lv_has ls 2 [(1, .int 1), (0, .ref a.1)] := hl
            refine lv_iload_n S.1 S.2.1 dX_test_58 rfl (lv_at hl 0 rfl) ?_
            refine lv_aload_n S.1 S.2.1 dX_test_59 rfl (lv_at hl 1 rfl) ?_
            refine lv_bipush (v := 8) S.1 S.2.1 dX_test_60 (by decide) ?_
            refine cl_i (As := [.int 8]) (rest := [.int 1]) S hN hK hP hD hS hA hl.1 (c_X_irHas l D a _ pc ac lk mq ma mb ir sw io dl ha rd sn md kf kb cn pf co ou 8) k_X_233 (rc_X hK hP) ⟨by decide, by decide⟩ rfl rfl (Nat.le_of_ble_eq_true rfl) ⟨Nat.le_refl _, Nat.le_refl _⟩ dX_test_62 (fun r u H locs hw hP hD hS => ?_)
            obtain ⟨g43, rfl, rfl⟩ | ⟨g44, rfl, rfl⟩ := hw
            · refine lv_icmp_eq (tgt := 72) S.1 S.2.1 dX_test_65 (by decide) (fun g45 => absurd g45 (by decide)) (fun _ => ?_)
              refine lv_aload_n S.1 S.2.1 dX_test_68 rfl (lv_at hl 1 rfl) ?_
              refine cl_v (As := []) (rest := []) S hN hK hP hD hS hA hl.1 (c_X_advancePc l D a _ pc ac lk mq ma mb ir sw io dl ha rd sn md kf kb cn pf co ou ) k_X_230 (rc_X hK hP) ⟨by decide, by decide⟩ rfl rfl (Nat.le_of_ble_eq_true rfl) ⟨Nat.le_refl _, Nat.le_refl _⟩ dX_test_69 (fun u H locs hw hP hD hS => ?_)
              obtain rfl := hw
              refine lv_bipush (v := 27) S.1 S.2.1 dX_test_72 (by decide) ?_
              exact rt_i S hr hk hK hP hD hS ((by simp [mu26, g1, g5, g25, g31, g38, g43])) dX_test_74
            · refine lv_icmp_eq (tgt := 72) S.1 S.2.1 dX_test_65 (by decide) (fun _ => ?_) (fun g46 => absurd (by decide) g46)
              refine lv_bipush (v := 27) S.1 S.2.1 dX_test_72 (by decide) ?_
              exact rt_i S hr hk hK hP hD hS ((by simp [mu26, g1, g5, g25, g31, g38, g44])) dX_test_74
  · refine lv_if_eq (tgt := 19) S.1 S.2.1 dX_test_6 (by decide) (fun g47 => absurd g47 (by decide)) (fun _ => ?_)
    refine lv_aload_n S.1 S.2.1 dX_test_9 rfl (lv_at hl 0 rfl) ?_
    refine g_X_X_ac S hK hP dX_test_10 ?_
    refine lv_sipush (v := 2048) S.1 S.2.1 dX_test_13 (by decide) ?_
    refine lv_icmp_ge (tgt := 52) S.1 S.2.1 dX_test_16 (by decide) (fun g48 => ?_) (fun g48 => ?_)
    · refine lv_iconst (v := 1) S.1 S.2.1 dX_test_52 (by decide) ?_
      refine lv_goto (tgt := 57) S.1 S.2.1 dX_test_53 (by decide) ?_
      refine lv_istore_n S.1 S.2.1 dX_test_57 rfl hl (by decide) rfl (fun ls hl => ?_)
      have hl : lv_has ls 2 [(1, .int 1), (0, .ref a.1)] := hl
      refine lv_iload_n S.1 S.2.1 dX_test_58 rfl (lv_at hl 0 rfl) ?_
      refine lv_aload_n S.1 S.2.1 dX_test_59 rfl (lv_at hl 1 rfl) ?_
      refine lv_bipush (v := 8) S.1 S.2.1 dX_test_60 (by decide) ?_
      refine cl_i (As := [.int 8]) (rest := [.int 1]) S hN hK hP hD hS hA hl.1 (c_X_irHas l D a _ pc ac lk mq ma mb ir sw io dl ha rd sn md kf kb cn pf co ou 8) k_X_233 (rc_X hK hP) ⟨by decide, by decide⟩ rfl rfl (Nat.le_of_ble_eq_true rfl) ⟨Nat.le_refl _, Nat.le_refl _⟩ dX_test_62 (fun r u H locs hw hP hD hS => ?_)
      obtain ⟨g49, rfl, rfl⟩ | ⟨g50, rfl, rfl⟩ := hw
      · refine lv_icmp_eq (tgt := 72) S.1 S.2.1 dX_test_65 (by decide) (fun g51 => absurd g51 (by decide)) (fun _ => ?_)
        refine lv_aload_n S.1 S.2.1 dX_test_68 rfl (lv_at hl 1 rfl) ?_
        refine cl_v (As := []) (rest := []) S hN hK hP hD hS hA hl.1 (c_X_advancePc l D a _ pc ac lk mq ma mb ir sw io dl ha rd sn md kf kb cn pf co ou ) k_X_230 (rc_X hK hP) ⟨by decide, by decide⟩ rfl rfl (Nat.le_of_ble_eq_true rfl) ⟨Nat.le_refl _, Nat.le_refl _⟩ dX_test_69 (fun u H locs hw hP hD hS => ?_)
        obtain rfl := hw
        refine lv_bipush (v := 27) S.1 S.2.1 dX_test_72 (by decide) ?_
        exact rt_i S hr hk hK hP hD hS ((by simp [mu26, g2, g48, g49])) dX_test_74
      · refine lv_icmp_eq (tgt := 72) S.1 S.2.1 dX_test_65 (by decide) (fun _ => ?_) (fun g52 => absurd (by decide) g52)
        refine lv_bipush (v := 27) S.1 S.2.1 dX_test_72 (by decide) ?_
        exact rt_i S hr hk hK hP hD hS ((by simp [mu26, g2, g48, g50])) dX_test_74
    · refine lv_aload_n S.1 S.2.1 dX_test_19 rfl (lv_at hl 0 rfl) ?_
      refine lv_bipush (v := 32) S.1 S.2.1 dX_test_20 (by decide) ?_
      refine cl_i (As := [.int 32]) (rest := []) S hN hK hP hD hS hA hl.1 (c_X_irHas l D a _ pc ac lk mq ma mb ir sw io dl ha rd sn md kf kb cn pf co ou 32) k_X_233 (rc_X hK hP) ⟨by decide, by decide⟩ rfl rfl (Nat.le_of_ble_eq_true rfl) ⟨Nat.le_refl _, Nat.le_refl _⟩ dX_test_22 (fun r u H locs hw hP hD hS => ?_)
      obtain ⟨g53, rfl, rfl⟩ | ⟨g54, rfl, rfl⟩ := hw
      · refine lv_if_eq (tgt := 35) S.1 S.2.1 dX_test_25 (by decide) (fun _ => ?_) (fun g55 => absurd (by decide) g55)
        refine lv_aload_n S.1 S.2.1 dX_test_35 rfl (lv_at hl 0 rfl) ?_
        refine lv_bipush (v := 16) S.1 S.2.1 dX_test_36 (by decide) ?_
        refine cl_i (As := [.int 16]) (rest := []) S hN hK hP hD hS hA hl.1 (c_X_irHas l D a _ pc ac lk mq ma mb ir sw io dl ha rd sn md kf kb cn pf co ou 16) k_X_233 (rc_X hK hP) ⟨by decide, by decide⟩ rfl rfl (Nat.le_of_ble_eq_true rfl) ⟨Nat.le_refl _, Nat.le_refl _⟩ dX_test_38 (fun r u H locs hw hP hD hS => ?_)
        obtain ⟨g56, rfl, rfl⟩ | ⟨g57, rfl, rfl⟩ := hw
        · refine lv_if_eq (tgt := 56) S.1 S.2.1 dX_test_41 (by decide) (fun _ => ?_) (fun g58 => absurd (by decide) g58)
          refine lv_iconst (v := 0) S.1 S.2.1 dX_test_56 (by decide) ?_
          refine lv_istore_n S.1 S.2.1 dX_test_57 rfl hl (by decide) rfl (fun ls hl => ?_)
          have hl : lv_has ls 2 [(1, .int 0), (0, .ref a.1)] := hl
          refine lv_iload_n S.1 S.2.1 dX_test_58 rfl (lv_at hl 0 rfl) ?_
          refine lv_aload_n S.1 S.2.1 dX_test_59 rfl (lv_at hl 1 rfl) ?_
          refine lv_bipush (v := 8) S.1 S.2.1 dX_test_60 (by decide) ?_
          refine cl_i (As := [.int 8]) (rest := [.int 0]) S hN hK hP hD hS hA hl.1 (c_X_irHas l D a _ pc ac lk mq ma mb ir sw io dl ha rd sn md kf kb cn pf co ou 8) k_X_233 (rc_X hK hP) ⟨by decide, by decide⟩ rfl rfl (Nat.le_of_ble_eq_true rfl) ⟨Nat.le_refl _, Nat.le_refl _⟩ dX_test_62 (fun r u H locs hw hP hD hS => ?_)
          obtain ⟨g59, rfl, rfl⟩ | ⟨g60, rfl, rfl⟩ := hw
          · refine lv_icmp_eq (tgt := 72) S.1 S.2.1 dX_test_65 (by decide) (fun _ => ?_) (fun g61 => absurd (by decide) g61)
            refine lv_bipush (v := 27) S.1 S.2.1 dX_test_72 (by decide) ?_
            exact rt_i S hr hk hK hP hD hS ((by simp [mu26, g2, g48, g53, g56, g59])) dX_test_74
          · refine lv_icmp_eq (tgt := 72) S.1 S.2.1 dX_test_65 (by decide) (fun g62 => absurd g62 (by decide)) (fun _ => ?_)
            refine lv_aload_n S.1 S.2.1 dX_test_68 rfl (lv_at hl 1 rfl) ?_
            refine cl_v (As := []) (rest := []) S hN hK hP hD hS hA hl.1 (c_X_advancePc l D a _ pc ac lk mq ma mb ir sw io dl ha rd sn md kf kb cn pf co ou ) k_X_230 (rc_X hK hP) ⟨by decide, by decide⟩ rfl rfl (Nat.le_of_ble_eq_true rfl) ⟨Nat.le_refl _, Nat.le_refl _⟩ dX_test_69 (fun u H locs hw hP hD hS => ?_)
            obtain rfl := hw
            refine lv_bipush (v := 27) S.1 S.2.1 dX_test_72 (by decide) ?_
            exact rt_i S hr hk hK hP hD hS ((by simp [mu26, g2, g48, g53, g56, g60])) dX_test_74
        · refine lv_if_eq (tgt := 56) S.1 S.2.1 dX_test_41 (by decide) (fun g63 => absurd g63 (by decide)) (fun _ => ?_)
          refine lv_aload_n S.1 S.2.1 dX_test_44 rfl (lv_at hl 0 rfl) ?_
          refine g_X_X_link S hK hP dX_test_45 ?_
          refine lv_iconst (v := 1) S.1 S.2.1 dX_test_48 (by decide) ?_
          refine lv_icmp_ne (tgt := 56) S.1 S.2.1 dX_test_49 (by decide) (fun g64 => ?_) (fun g64 => ?_)
          · refine lv_iconst (v := 0) S.1 S.2.1 dX_test_56 (by decide) ?_
            refine lv_istore_n S.1 S.2.1 dX_test_57 rfl hl (by decide) rfl (fun ls hl => ?_)
            have hl : lv_has ls 2 [(1, .int 0), (0, .ref a.1)] := hl
            refine lv_iload_n S.1 S.2.1 dX_test_58 rfl (lv_at hl 0 rfl) ?_
            refine lv_aload_n S.1 S.2.1 dX_test_59 rfl (lv_at hl 1 rfl) ?_
            refine lv_bipush (v := 8) S.1 S.2.1 dX_test_60 (by decide) ?_
            refine cl_i (As := [.int 8]) (rest := [.int 0]) S hN hK hP hD hS hA hl.1 (c_X_irHas l D a _ pc ac lk mq ma mb ir sw io dl ha rd sn md kf kb cn pf co ou 8) k_X_233 (rc_X hK hP) ⟨by decide, by decide⟩ rfl rfl (Nat.le_of_ble_eq_true rfl) ⟨Nat.le_refl _, Nat.le_refl _⟩ dX_test_62 (fun r u H locs hw hP hD hS => ?_)
            obtain ⟨g65, rfl, rfl⟩ | ⟨g66, rfl, rfl⟩ := hw
            · refine lv_icmp_eq (tgt := 72) S.1 S.2.1 dX_test_65 (by decide) (fun _ => ?_) (fun g67 => absurd (by decide) g67)
              refine lv_bipush (v := 27) S.1 S.2.1 dX_test_72 (by decide) ?_
              exact rt_i S hr hk hK hP hD hS ((by simp [mu26, g2, g48, g53, g57, g64, g65])) dX_test_74
            · refine lv_icmp_eq (tgt := 72) S.1 S.2.1 dX_test_65 (by decide) (fun g68 => absurd g68 (by decide)) (fun _ => ?_)
              refine lv_aload_n S.1 S.2.1 dX_test_68 rfl (lv_at hl 1 rfl) ?_
              refine cl_v (As := []) (rest := []) S hN hK hP hD hS hA hl.1 (c_X_advancePc l D a _ pc ac lk mq ma mb ir sw io dl ha rd sn md kf kb cn pf co ou ) k_X_230 (rc_X hK hP) ⟨by decide, by decide⟩ rfl rfl (Nat.le_of_ble_eq_true rfl) ⟨Nat.le_refl _, Nat.le_refl _⟩ dX_test_69 (fun u H locs hw hP hD hS => ?_)
              obtain rfl := hw
              refine lv_bipush (v := 27) S.1 S.2.1 dX_test_72 (by decide) ?_
              exact rt_i S hr hk hK hP hD hS ((by simp [mu26, g2, g48, g53, g57, g64, g66])) dX_test_74
          · refine lv_iconst (v := 1) S.1 S.2.1 dX_test_52 (by decide) ?_
            refine lv_goto (tgt := 57) S.1 S.2.1 dX_test_53 (by decide) ?_
            refine lv_istore_n S.1 S.2.1 dX_test_57 rfl hl (by decide) rfl (fun ls hl => ?_)
            have hl : lv_has ls 2 [(1, .int 1), (0, .ref a.1)] := hl
            refine lv_iload_n S.1 S.2.1 dX_test_58 rfl (lv_at hl 0 rfl) ?_
            refine lv_aload_n S.1 S.2.1 dX_test_59 rfl (lv_at hl 1 rfl) ?_
            refine lv_bipush (v := 8) S.1 S.2.1 dX_test_60 (by decide) ?_
            refine cl_i (As := [.int 8]) (rest := [.int 1]) S hN hK hP hD hS hA hl.1 (c_X_irHas l D a _ pc ac lk mq ma mb ir sw io dl ha rd sn md kf kb cn pf co ou 8) k_X_233 (rc_X hK hP) ⟨by decide, by decide⟩ rfl rfl (Nat.le_of_ble_eq_true rfl) ⟨Nat.le_refl _, Nat.le_refl _⟩ dX_test_62 (fun r u H locs hw hP hD hS => ?_)
            obtain ⟨g69, rfl, rfl⟩ | ⟨g70, rfl, rfl⟩ := hw
            · refine lv_icmp_eq (tgt := 72) S.1 S.2.1 dX_test_65 (by decide) (fun g71 => absurd g71 (by decide)) (fun _ => ?_)
              refine lv_aload_n S.1 S.2.1 dX_test_68 rfl (lv_at hl 1 rfl) ?_
              refine cl_v (As := []) (rest := []) S hN hK hP hD hS hA hl.1 (c_X_advancePc l D a _ pc ac lk mq ma mb ir sw io dl ha rd sn md kf kb cn pf co ou ) k_X_230 (rc_X hK hP) ⟨by decide, by decide⟩ rfl rfl (Nat.le_of_ble_eq_true rfl) ⟨Nat.le_refl _, Nat.le_refl _⟩ dX_test_69 (fun u H locs hw hP hD hS => ?_)
              obtain rfl := hw
              refine lv_bipush (v := 27) S.1 S.2.1 dX_test_72 (by decide) ?_
              exact rt_i S hr hk hK hP hD hS ((by simp [mu26, g2, g48, g53, g57, g64, g69])) dX_test_74
            · refine lv_icmp_eq (tgt := 72) S.1 S.2.1 dX_test_65 (by decide) (fun _ => ?_) (fun g72 => absurd (by decide) g72)
              refine lv_bipush (v := 27) S.1 S.2.1 dX_test_72 (by decide) ?_
              exact rt_i S hr hk hK hP hD hS ((by simp [mu26, g2, g48, g53, g57, g64, g70])) dX_test_74
      · refine lv_if_eq (tgt := 35) S.1 S.2.1 dX_test_25 (by decide) (fun g73 => absurd g73 (by decide)) (fun _ => ?_)
        refine lv_aload_n S.1 S.2.1 dX_test_28 rfl (lv_at hl 0 rfl) ?_
        refine g_X_X_ac S hK hP dX_test_29 ?_
        refine lv_if_eq (tgt := 52) S.1 S.2.1 dX_test_32 (by decide) (fun g74 => ?_) (fun g74 => ?_)
        · refine lv_iconst (v := 1) S.1 S.2.1 dX_test_52 (by decide) ?_
          refine lv_goto (tgt := 57) S.1 S.2.1 dX_test_53 (by decide) ?_
          refine lv_istore_n S.1 S.2.1 dX_test_57 rfl hl (by decide) rfl (fun ls hl => ?_)
          have hl : lv_has ls 2 [(1, .int 1), (0, .ref a.1)] := hl
          refine lv_iload_n S.1 S.2.1 dX_test_58 rfl (lv_at hl 0 rfl) ?_
          refine lv_aload_n S.1 S.2.1 dX_test_59 rfl (lv_at hl 1 rfl) ?_
          refine lv_bipush (v := 8) S.1 S.2.1 dX_test_60 (by decide) ?_
          refine cl_i (As := [.int 8]) (rest := [.int 1]) S hN hK hP hD hS hA hl.1 (c_X_irHas l D a _ pc ac lk mq ma mb ir sw io dl ha rd sn md kf kb cn pf co ou 8) k_X_233 (rc_X hK hP) ⟨by decide, by decide⟩ rfl rfl (Nat.le_of_ble_eq_true rfl) ⟨Nat.le_refl _, Nat.le_refl _⟩ dX_test_62 (fun r u H locs hw hP hD hS => ?_)
          obtain ⟨g75, rfl, rfl⟩ | ⟨g76, rfl, rfl⟩ := hw
          · refine lv_icmp_eq (tgt := 72) S.1 S.2.1 dX_test_65 (by decide) (fun g77 => absurd g77 (by decide)) (fun _ => ?_)
            refine lv_aload_n S.1 S.2.1 dX_test_68 rfl (lv_at hl 1 rfl) ?_
            refine cl_v (As := []) (rest := []) S hN hK hP hD hS hA hl.1 (c_X_advancePc l D a _ pc ac lk mq ma mb ir sw io dl ha rd sn md kf kb cn pf co ou ) k_X_230 (rc_X hK hP) ⟨by decide, by decide⟩ rfl rfl (Nat.le_of_ble_eq_true rfl) ⟨Nat.le_refl _, Nat.le_refl _⟩ dX_test_69 (fun u H locs hw hP hD hS => ?_)
            obtain rfl := hw
            refine lv_bipush (v := 27) S.1 S.2.1 dX_test_72 (by decide) ?_
            exact rt_i S hr hk hK hP hD hS ((by simp [mu26, g2, g48, g54, g74, g75])) dX_test_74
          · refine lv_icmp_eq (tgt := 72) S.1 S.2.1 dX_test_65 (by decide) (fun _ => ?_) (fun g78 => absurd (by decide) g78)
            refine lv_bipush (v := 27) S.1 S.2.1 dX_test_72 (by decide) ?_
            exact rt_i S hr hk hK hP hD hS ((by simp [mu26, g2, g48, g54, g74, g76])) dX_test_74
        · refine lv_aload_n S.1 S.2.1 dX_test_35 rfl (lv_at hl 0 rfl) ?_
          refine lv_bipush (v := 16) S.1 S.2.1 dX_test_36 (by decide) ?_
          refine cl_i (As := [.int 16]) (rest := []) S hN hK hP hD hS hA hl.1 (c_X_irHas l D a _ pc ac lk mq ma mb ir sw io dl ha rd sn md kf kb cn pf co ou 16) k_X_233 (rc_X hK hP) ⟨by decide, by decide⟩ rfl rfl (Nat.le_of_ble_eq_true rfl) ⟨Nat.le_refl _, Nat.le_refl _⟩ dX_test_38 (fun r u H locs hw hP hD hS => ?_)
          obtain ⟨g79, rfl, rfl⟩ | ⟨g80, rfl, rfl⟩ := hw
          · refine lv_if_eq (tgt := 56) S.1 S.2.1 dX_test_41 (by decide) (fun _ => ?_) (fun g81 => absurd (by decide) g81)
            refine lv_iconst (v := 0) S.1 S.2.1 dX_test_56 (by decide) ?_
            refine lv_istore_n S.1 S.2.1 dX_test_57 rfl hl (by decide) rfl (fun ls hl => ?_)
            have hl : lv_has ls 2 [(1, .int 0), (0, .ref a.1)] := hl
            refine lv_iload_n S.1 S.2.1 dX_test_58 rfl (lv_at hl 0 rfl) ?_
            refine lv_aload_n S.1 S.2.1 dX_test_59 rfl (lv_at hl 1 rfl) ?_
            refine lv_bipush (v := 8) S.1 S.2.1 dX_test_60 (by decide) ?_
            refine cl_i (As := [.int 8]) (rest := [.int 0]) S hN hK hP hD hS hA hl.1 (c_X_irHas l D a _ pc ac lk mq ma mb ir sw io dl ha rd sn md kf kb cn pf co ou 8) k_X_233 (rc_X hK hP) ⟨by decide, by decide⟩ rfl rfl (Nat.le_of_ble_eq_true rfl) ⟨Nat.le_refl _, Nat.le_refl _⟩ dX_test_62 (fun r u H locs hw hP hD hS => ?_)
            obtain ⟨g82, rfl, rfl⟩ | ⟨g83, rfl, rfl⟩ := hw
            · refine lv_icmp_eq (tgt := 72) S.1 S.2.1 dX_test_65 (by decide) (fun _ => ?_) (fun g84 => absurd (by decide) g84)
              refine lv_bipush (v := 27) S.1 S.2.1 dX_test_72 (by decide) ?_
              exact rt_i S hr hk hK hP hD hS ((by simp [mu26, g2, g48, g54, g74, g79, g82])) dX_test_74
            · refine lv_icmp_eq (tgt := 72) S.1 S.2.1 dX_test_65 (by decide) (fun g85 => absurd g85 (by decide)) (fun _ => ?_)
              refine lv_aload_n S.1 S.2.1 dX_test_68 rfl (lv_at hl 1 rfl) ?_
              refine cl_v (As := []) (rest := []) S hN hK hP hD hS hA hl.1 (c_X_advancePc l D a _ pc ac lk mq ma mb ir sw io dl ha rd sn md kf kb cn pf co ou ) k_X_230 (rc_X hK hP) ⟨by decide, by decide⟩ rfl rfl (Nat.le_of_ble_eq_true rfl) ⟨Nat.le_refl _, Nat.le_refl _⟩ dX_test_69 (fun u H locs hw hP hD hS => ?_)
              obtain rfl := hw
              refine lv_bipush (v := 27) S.1 S.2.1 dX_test_72 (by decide) ?_
              exact rt_i S hr hk hK hP hD hS ((by simp [mu26, g2, g48, g54, g74, g79, g83])) dX_test_74
          · refine lv_if_eq (tgt := 56) S.1 S.2.1 dX_test_41 (by decide) (fun g86 => absurd g86 (by decide)) (fun _ => ?_)
            refine lv_aload_n S.1 S.2.1 dX_test_44 rfl (lv_at hl 0 rfl) ?_
            refine g_X_X_link S hK hP dX_test_45 ?_
            refine lv_iconst (v := 1) S.1 S.2.1 dX_test_48 (by decide) ?_
            refine lv_icmp_ne (tgt := 56) S.1 S.2.1 dX_test_49 (by decide) (fun g87 => ?_) (fun g87 => ?_)
            · refine lv_iconst (v := 0) S.1 S.2.1 dX_test_56 (by decide) ?_
              refine lv_istore_n S.1 S.2.1 dX_test_57 rfl hl (by decide) rfl (fun ls hl => ?_)
              have hl : lv_has ls 2 [(1, .int 0), (0, .ref a.1)] := hl
              refine lv_iload_n S.1 S.2.1 dX_test_58 rfl (lv_at hl 0 rfl) ?_
              refine lv_aload_n S.1 S.2.1 dX_test_59 rfl (lv_at hl 1 rfl) ?_
              refine lv_bipush (v := 8) S.1 S.2.1 dX_test_60 (by decide) ?_
              refine cl_i (As := [.int 8]) (rest := [.int 0]) S hN hK hP hD hS hA hl.1 (c_X_irHas l D a _ pc ac lk mq ma mb ir sw io dl ha rd sn md kf kb cn pf co ou 8) k_X_233 (rc_X hK hP) ⟨by decide, by decide⟩ rfl rfl (Nat.le_of_ble_eq_true rfl) ⟨Nat.le_refl _, Nat.le_refl _⟩ dX_test_62 (fun r u H locs hw hP hD hS => ?_)
              obtain ⟨g88, rfl, rfl⟩ | ⟨g89, rfl, rfl⟩ := hw
              · refine lv_icmp_eq (tgt := 72) S.1 S.2.1 dX_test_65 (by decide) (fun _ => ?_) (fun g90 => absurd (by decide) g90)
                refine lv_bipush (v := 27) S.1 S.2.1 dX_test_72 (by decide) ?_
                exact rt_i S hr hk hK hP hD hS ((by simp [mu26, g2, g48, g54, g74, g80, g87, g88])) dX_test_74
              · refine lv_icmp_eq (tgt := 72) S.1 S.2.1 dX_test_65 (by decide) (fun g91 => absurd g91 (by decide)) (fun _ => ?_)
                refine lv_aload_n S.1 S.2.1 dX_test_68 rfl (lv_at hl 1 rfl) ?_
                refine cl_v (As := []) (rest := []) S hN hK hP hD hS hA hl.1 (c_X_advancePc l D a _ pc ac lk mq ma mb ir sw io dl ha rd sn md kf kb cn pf co ou ) k_X_230 (rc_X hK hP) ⟨by decide, by decide⟩ rfl rfl (Nat.le_of_ble_eq_true rfl) ⟨Nat.le_refl _, Nat.le_refl _⟩ dX_test_69 (fun u H locs hw hP hD hS => ?_)
                obtain rfl := hw
                refine lv_bipush (v := 27) S.1 S.2.1 dX_test_72 (by decide) ?_
                exact rt_i S hr hk hK hP hD hS ((by simp [mu26, g2, g48, g54, g74, g80, g87, g89])) dX_test_74
            · refine lv_iconst (v := 1) S.1 S.2.1 dX_test_52 (by decide) ?_
              refine lv_goto (tgt := 57) S.1 S.2.1 dX_test_53 (by decide) ?_
              refine lv_istore_n S.1 S.2.1 dX_test_57 rfl hl (by decide) rfl (fun ls hl => ?_)
              have hl : lv_has ls 2 [(1, .int 1), (0, .ref a.1)] := hl
              refine lv_iload_n S.1 S.2.1 dX_test_58 rfl (lv_at hl 0 rfl) ?_
              refine lv_aload_n S.1 S.2.1 dX_test_59 rfl (lv_at hl 1 rfl) ?_
              refine lv_bipush (v := 8) S.1 S.2.1 dX_test_60 (by decide) ?_
              refine cl_i (As := [.int 8]) (rest := [.int 1]) S hN hK hP hD hS hA hl.1 (c_X_irHas l D a _ pc ac lk mq ma mb ir sw io dl ha rd sn md kf kb cn pf co ou 8) k_X_233 (rc_X hK hP) ⟨by decide, by decide⟩ rfl rfl (Nat.le_of_ble_eq_true rfl) ⟨Nat.le_refl _, Nat.le_refl _⟩ dX_test_62 (fun r u H locs hw hP hD hS => ?_)
              obtain ⟨g92, rfl, rfl⟩ | ⟨g93, rfl, rfl⟩ := hw
              · refine lv_icmp_eq (tgt := 72) S.1 S.2.1 dX_test_65 (by decide) (fun g94 => absurd g94 (by decide)) (fun _ => ?_)
                refine lv_aload_n S.1 S.2.1 dX_test_68 rfl (lv_at hl 1 rfl) ?_
                refine cl_v (As := []) (rest := []) S hN hK hP hD hS hA hl.1 (c_X_advancePc l D a _ pc ac lk mq ma mb ir sw io dl ha rd sn md kf kb cn pf co ou ) k_X_230 (rc_X hK hP) ⟨by decide, by decide⟩ rfl rfl (Nat.le_of_ble_eq_true rfl) ⟨Nat.le_refl _, Nat.le_refl _⟩ dX_test_69 (fun u H locs hw hP hD hS => ?_)
                obtain rfl := hw
                refine lv_bipush (v := 27) S.1 S.2.1 dX_test_72 (by decide) ?_
                exact rt_i S hr hk hK hP hD hS ((by simp [mu26, g2, g48, g54, g74, g80, g87, g92])) dX_test_74
              · refine lv_icmp_eq (tgt := 72) S.1 S.2.1 dX_test_65 (by decide) (fun _ => ?_) (fun g95 => absurd (by decide) g95)
                refine lv_bipush (v := 27) S.1 S.2.1 dX_test_72 (by decide) ?_
                exact rt_i S hr hk hK hP hD hS ((by simp [mu26, g2, g48, g54, g74, g80, g87, g93])) dX_test_74

set_option maxHeartbeats 4000000 in
set_option maxRecDepth 100000 in
theorem c_X_clearAfterTest (l : Launch) (D : va_G) (a : AX) (sz : Nat) (pc ac lk mq ma mb ir sw io dl ha rd sn md kf kb cn pf : Int32) (co ou : Nat → Int32) : MI l D (wx a) (tx a) sz yX_clearAfterTest cX_clearAfterTest 1 (some .int) 2 [.ref a.1] (pc, ac, lk, mq, ma, mb, ir, sw, io, dl, ha, rd, sn, md, kf, kb, cn, pf, co, ou) (fun r u => (r, u) = mu27 (pc, ac, lk, mq, ma, mb, ir, sw, io, dl, ha, rd, sn, md, kf, kb, cn, pf, co, ou)) := by
  refine en_i RX rfl (by decide) (Nat.le_of_ble_eq_true rfl) ?_
  intro p e s m below meth c A ls S hr hk hA hN hK hP hD hS hl
  have hl : lv_has ls 1 [(0, .ref a.1)] := hl
  refine lv_aload_n S.1 S.2.1 dX_clearAfterTest_0 rfl (lv_at hl 0 rfl) ?_
  refine cl_v (As := []) (rest := []) S hN hK hP hD hS hA hl.1 (c_X_clearAcIfAsked l D a _ pc ac lk mq ma mb ir sw io dl ha rd sn md kf kb cn pf co ou ) k_X_245 (rc_X hK hP) ⟨by decide, by decide⟩ rfl rfl (Nat.le_of_ble_eq_true rfl) ⟨Nat.le_refl _, Nat.le_refl _⟩ dX_clearAfterTest_1 (fun u H locs hw hP hD hS => ?_)
  obtain ⟨g1, rfl⟩ | ⟨g2, rfl⟩ := hw
  · refine lv_aload_n S.1 S.2.1 dX_clearAfterTest_4 rfl (lv_at hl 0 rfl) ?_
    refine lv_bipush (v := 6) S.1 S.2.1 dX_clearAfterTest_5 (by decide) ?_
    refine cl_i (As := [.int 6]) (rest := []) S hN hK hP hD hS hA hl.1 (c_X_irHas l D a _ pc ac lk mq ma mb ir sw io dl ha rd sn md kf kb cn pf co ou 6) k_X_233 (rc_X hK hP) ⟨by decide, by decide⟩ rfl rfl (Nat.le_of_ble_eq_true rfl) ⟨Nat.le_refl _, Nat.le_refl _⟩ dX_clearAfterTest_7 (fun r u H locs hw hP hD hS => ?_)
    obtain ⟨g3, rfl, rfl⟩ | ⟨g4, rfl, rfl⟩ := hw
    · refine lv_if_eq (tgt := 18) S.1 S.2.1 dX_clearAfterTest_10 (by decide) (fun _ => ?_) (fun g5 => absurd (by decide) g5)
      refine lv_iconst (v := 0) S.1 S.2.1 dX_clearAfterTest_18 (by decide) ?_
      exact rt_i S hr hk hK hP hD hS ((by simp [mu27, g1, g3])) dX_clearAfterTest_19
    · refine lv_if_eq (tgt := 18) S.1 S.2.1 dX_clearAfterTest_10 (by decide) (fun g6 => absurd g6 (by decide)) (fun _ => ?_)
      refine lv_bipush (v := 28) S.1 S.2.1 dX_clearAfterTest_13 (by decide) ?_
      refine lv_goto (tgt := 19) S.1 S.2.1 dX_clearAfterTest_15 (by decide) ?_
      exact rt_i S hr hk hK hP hD hS ((by simp [mu27, g1, g4])) dX_clearAfterTest_19
  · refine lv_aload_n S.1 S.2.1 dX_clearAfterTest_4 rfl (lv_at hl 0 rfl) ?_
    refine lv_bipush (v := 6) S.1 S.2.1 dX_clearAfterTest_5 (by decide) ?_
    refine cl_i (As := [.int 6]) (rest := []) S hN hK hP hD hS hA hl.1 (c_X_irHas l D a _ pc 0 lk mq ma mb ir sw io dl ha rd sn md kf kb cn pf co ou 6) k_X_233 (rc_X hK hP) ⟨by decide, by decide⟩ rfl rfl (Nat.le_of_ble_eq_true rfl) ⟨Nat.le_refl _, Nat.le_refl _⟩ dX_clearAfterTest_7 (fun r u H locs hw hP hD hS => ?_)
    obtain ⟨g7, rfl, rfl⟩ | ⟨g8, rfl, rfl⟩ := hw
    · refine lv_if_eq (tgt := 18) S.1 S.2.1 dX_clearAfterTest_10 (by decide) (fun _ => ?_) (fun g9 => absurd (by decide) g9)
      refine lv_iconst (v := 0) S.1 S.2.1 dX_clearAfterTest_18 (by decide) ?_
      exact rt_i S hr hk hK hP hD hS ((by simp [mu27, g2, g7])) dX_clearAfterTest_19
    · refine lv_if_eq (tgt := 18) S.1 S.2.1 dX_clearAfterTest_10 (by decide) (fun g10 => absurd g10 (by decide)) (fun _ => ?_)
      refine lv_bipush (v := 28) S.1 S.2.1 dX_clearAfterTest_13 (by decide) ?_
      refine lv_goto (tgt := 19) S.1 S.2.1 dX_clearAfterTest_15 (by decide) ?_
      exact rt_i S hr hk hK hP hD hS ((by simp [mu27, g2, g8])) dX_clearAfterTest_19

set_option maxHeartbeats 4000000 in
set_option maxRecDepth 100000 in
theorem c_X_switchesAndHalt (l : Launch) (D : va_G) (a : AX) (sz : Nat) (pc ac lk mq ma mb ir sw io dl ha rd sn md kf kb cn pf : Int32) (co ou : Nat → Int32) : MI l D (wx a) (tx a) sz yX_switchesAndHalt cX_switchesAndHalt 1 (some .int) 1 [.ref a.1] (pc, ac, lk, mq, ma, mb, ir, sw, io, dl, ha, rd, sn, md, kf, kb, cn, pf, co, ou) (fun r u => (r, u) = mu28 (pc, ac, lk, mq, ma, mb, ir, sw, io, dl, ha, rd, sn, md, kf, kb, cn, pf, co, ou)) := by
  refine en_i RX rfl (by decide) (Nat.le_of_ble_eq_true rfl) ?_
  intro p e s m below meth c A ls S hr hk hA hN hK hP hD hS hl
  have hl : lv_has ls 1 [(0, .ref a.1)] := hl
  refine lv_aload_n S.1 S.2.1 dX_switchesAndHalt_0 rfl (lv_at hl 0 rfl) ?_
  refine lv_iconst (v := 4) S.1 S.2.1 dX_switchesAndHalt_1 (by decide) ?_
  refine cl_i (As := [.int 4]) (rest := []) S hN hK hP hD hS hA hl.1 (c_X_irHas l D a _ pc ac lk mq ma mb ir sw io dl ha rd sn md kf kb cn pf co ou 4) k_X_233 (rc_X hK hP) ⟨by decide, by decide⟩ rfl rfl (Nat.le_of_ble_eq_true rfl) ⟨Nat.le_refl _, Nat.le_refl _⟩ dX_switchesAndHalt_2 (fun r u H locs hw hP hD hS => ?_)
  obtain ⟨g1, rfl, rfl⟩ | ⟨g2, rfl, rfl⟩ := hw
  · refine lv_if_eq (tgt := 21) S.1 S.2.1 dX_switchesAndHalt_5 (by decide) (fun _ => ?_) (fun g3 => absurd (by decide) g3)
    refine lv_aload_n S.1 S.2.1 dX_switchesAndHalt_21 rfl (lv_at hl 0 rfl) ?_
    refine lv_iconst (v := 2) S.1 S.2.1 dX_switchesAndHalt_22 (by decide) ?_
    refine cl_i (As := [.int 2]) (rest := []) S hN hK hP hD hS hA hl.1 (c_X_irHas l D a _ pc ac lk mq ma mb ir sw io dl ha rd sn md kf kb cn pf co ou 2) k_X_233 (rc_X hK hP) ⟨by decide, by decide⟩ rfl rfl (Nat.le_of_ble_eq_true rfl) ⟨Nat.le_refl _, Nat.le_refl _⟩ dX_switchesAndHalt_23 (fun r u H locs hw hP hD hS => ?_)
    obtain ⟨g4, rfl, rfl⟩ | ⟨g5, rfl, rfl⟩ := hw
    · refine lv_if_eq (tgt := 34) S.1 S.2.1 dX_switchesAndHalt_26 (by decide) (fun _ => ?_) (fun g6 => absurd (by decide) g6)
      refine lv_iconst (v := 0) S.1 S.2.1 dX_switchesAndHalt_34 (by decide) ?_
      exact rt_i S hr hk hK hP hD hS ((by simp [mu28, g1, g4])) dX_switchesAndHalt_35
    · refine lv_if_eq (tgt := 34) S.1 S.2.1 dX_switchesAndHalt_26 (by decide) (fun g7 => absurd g7 (by decide)) (fun _ => ?_)
      refine lv_aload_n S.1 S.2.1 dX_switchesAndHalt_29 rfl (lv_at hl 0 rfl) ?_
      refine lv_iconst (v := 1) S.1 S.2.1 dX_switchesAndHalt_30 (by decide) ?_
      refine p_X_X_halted S hK hP hD hS rfl rfl dX_switchesAndHalt_31 (fun H locs hP hD hS => ?_)
      refine lv_iconst (v := 0) S.1 S.2.1 dX_switchesAndHalt_34 (by decide) ?_
      exact rt_i S hr hk hK hP hD hS ((by simp [mu28, g1, g5])) dX_switchesAndHalt_35
  · refine lv_if_eq (tgt := 21) S.1 S.2.1 dX_switchesAndHalt_5 (by decide) (fun g8 => absurd g8 (by decide)) (fun _ => ?_)
    refine lv_aload_n S.1 S.2.1 dX_switchesAndHalt_8 rfl (lv_at hl 0 rfl) ?_
    refine lv_dup S.1 S.2.1 dX_switchesAndHalt_9 rfl ?_
    refine g_X_X_ac S hK hP dX_switchesAndHalt_10 ?_
    refine lv_aload_n S.1 S.2.1 dX_switchesAndHalt_13 rfl (lv_at hl 0 rfl) ?_
    refine g_X_X_switchWord S hK hP dX_switchesAndHalt_14 ?_
    refine lv_ior S.1 S.2.1 dX_switchesAndHalt_17 ?_
    refine p_X_X_ac S hK hP hD hS dX_switchesAndHalt_18 (fun H locs hP hD hS => ?_)
    refine lv_aload_n S.1 S.2.1 dX_switchesAndHalt_21 rfl (lv_at hl 0 rfl) ?_
    refine lv_iconst (v := 2) S.1 S.2.1 dX_switchesAndHalt_22 (by decide) ?_
    refine cl_i (As := [.int 2]) (rest := []) S hN hK hP hD hS hA hl.1 (c_X_irHas l D a _ pc (ac ||| sw) lk mq ma mb ir sw io dl ha rd sn md kf kb cn pf co ou 2) k_X_233 (rc_X hK hP) ⟨by decide, by decide⟩ rfl rfl (Nat.le_of_ble_eq_true rfl) ⟨Nat.le_refl _, Nat.le_refl _⟩ dX_switchesAndHalt_23 (fun r u H locs hw hP hD hS => ?_)
    obtain ⟨g9, rfl, rfl⟩ | ⟨g10, rfl, rfl⟩ := hw
    · refine lv_if_eq (tgt := 34) S.1 S.2.1 dX_switchesAndHalt_26 (by decide) (fun _ => ?_) (fun g11 => absurd (by decide) g11)
      refine lv_iconst (v := 0) S.1 S.2.1 dX_switchesAndHalt_34 (by decide) ?_
      exact rt_i S hr hk hK hP hD hS ((by simp [mu28, g2, g9])) dX_switchesAndHalt_35
    · refine lv_if_eq (tgt := 34) S.1 S.2.1 dX_switchesAndHalt_26 (by decide) (fun g12 => absurd g12 (by decide)) (fun _ => ?_)
      refine lv_aload_n S.1 S.2.1 dX_switchesAndHalt_29 rfl (lv_at hl 0 rfl) ?_
      refine lv_iconst (v := 1) S.1 S.2.1 dX_switchesAndHalt_30 (by decide) ?_
      refine p_X_X_halted S hK hP hD hS rfl rfl dX_switchesAndHalt_31 (fun H locs hP hD hS => ?_)
      refine lv_iconst (v := 0) S.1 S.2.1 dX_switchesAndHalt_34 (by decide) ?_
      exact rt_i S hr hk hK hP hD hS ((by simp [mu28, g2, g10])) dX_switchesAndHalt_35

set_option maxHeartbeats 4000000 in
set_option maxRecDepth 100000 in
theorem c_X_clearBeforeMq (l : Launch) (D : va_G) (a : AX) (sz : Nat) (pc ac lk mq ma mb ir sw io dl ha rd sn md kf kb cn pf : Int32) (co ou : Nat → Int32) : MI l D (wx a) (tx a) sz yX_clearBeforeMq cX_clearBeforeMq 1 (some .int) 2 [.ref a.1] (pc, ac, lk, mq, ma, mb, ir, sw, io, dl, ha, rd, sn, md, kf, kb, cn, pf, co, ou) (fun r u => (r, u) = mu30 (pc, ac, lk, mq, ma, mb, ir, sw, io, dl, ha, rd, sn, md, kf, kb, cn, pf, co, ou)) := by
  refine en_i RX rfl (by decide) (Nat.le_of_ble_eq_true rfl) ?_
  intro p e s m below meth c A ls S hr hk hA hN hK hP hD hS hl
  have hl : lv_has ls 1 [(0, .ref a.1)] := hl
  refine lv_aload_n S.1 S.2.1 dX_clearBeforeMq_0 rfl (lv_at hl 0 rfl) ?_
  refine cl_v (As := []) (rest := []) S hN hK hP hD hS hA hl.1 (c_X_clearAcIfAsked l D a _ pc ac lk mq ma mb ir sw io dl ha rd sn md kf kb cn pf co ou ) k_X_245 (rc_X hK hP) ⟨by decide, by decide⟩ rfl rfl (Nat.le_of_ble_eq_true rfl) ⟨Nat.le_refl _, Nat.le_refl _⟩ dX_clearBeforeMq_1 (fun u H locs hw hP hD hS => ?_)
  obtain ⟨g1, rfl⟩ | ⟨g2, rfl⟩ := hw
  · refine lv_bipush (v := 31) S.1 S.2.1 dX_clearBeforeMq_4 (by decide) ?_
    exact rt_i S hr hk hK hP hD hS ((by simp [mu30, g1])) dX_clearBeforeMq_6
  · refine lv_bipush (v := 31) S.1 S.2.1 dX_clearBeforeMq_4 (by decide) ?_
    exact rt_i S hr hk hK hP hD hS ((by simp [mu30, g2])) dX_clearBeforeMq_6

set_option maxHeartbeats 4000000 in
set_option maxRecDepth 100000 in
theorem c_X_exchangeMq (l : Launch) (D : va_G) (a : AX) (sz : Nat) (pc ac lk mq ma mb ir sw io dl ha rd sn md kf kb cn pf : Int32) (co ou : Nat → Int32) : MI l D (wx a) (tx a) sz yX_exchangeMq cX_exchangeMq 3 (some .int) 1 [.ref a.1] (pc, ac, lk, mq, ma, mb, ir, sw, io, dl, ha, rd, sn, md, kf, kb, cn, pf, co, ou) (fun r u => (r, u) = mu31 (pc, ac, lk, mq, ma, mb, ir, sw, io, dl, ha, rd, sn, md, kf, kb, cn, pf, co, ou)) := by
  refine en_i RX rfl (by decide) (Nat.le_of_ble_eq_true rfl) ?_
  intro p e s m below meth c A ls S hr hk hA hN hK hP hD hS hl
  have hl : lv_has ls 3 [(0, .ref a.1)] := hl
  refine lv_aload_n S.1 S.2.1 dX_exchangeMq_0 rfl (lv_at hl 0 rfl) ?_
  refine g_X_X_mq S hK hP dX_exchangeMq_1 ?_
  refine lv_istore_n S.1 S.2.1 dX_exchangeMq_4 rfl hl (by decide) rfl (fun ls hl => ?_)
  have hl : lv_has ls 3 [(1, .int mq), (0, .ref a.1)] := hl
  refine lv_aload_n S.1 S.2.1 dX_exchangeMq_5 rfl (lv_at hl 1 rfl) ?_
  refine g_X_X_ac S hK hP dX_exchangeMq_6 ?_
  refine lv_istore_n S.1 S.2.1 dX_exchangeMq_9 rfl hl (by decide) rfl (fun ls hl => ?_)
  have hl : lv_has ls 3 [(2, .int ac), (1, .int mq), (0, .ref a.1)] := hl
  refine lv_aload_n S.1 S.2.1 dX_exchangeMq_10 rfl (lv_at hl 2 rfl) ?_
  refine lv_bipush (v := 16) S.1 S.2.1 dX_exchangeMq_11 (by decide) ?_
  refine cl_i (As := [.int 16]) (rest := []) S hN hK hP hD hS hA hl.1 (c_X_irHas l D a _ pc ac lk mq ma mb ir sw io dl ha rd sn md kf kb cn pf co ou 16) k_X_233 (rc_X hK hP) ⟨by decide, by decide⟩ rfl rfl (Nat.le_of_ble_eq_true rfl) ⟨Nat.le_refl _, Nat.le_refl _⟩ dX_exchangeMq_13 (fun r u H locs hw hP hD hS => ?_)
  obtain ⟨g1, rfl, rfl⟩ | ⟨g2, rfl, rfl⟩ := hw
  · refine lv_if_eq (tgt := 29) S.1 S.2.1 dX_exchangeMq_16 (by decide) (fun _ => ?_) (fun g3 => absurd (by decide) g3)
    refine lv_aload_n S.1 S.2.1 dX_exchangeMq_29 rfl (lv_at hl 2 rfl) ?_
    refine lv_aload_n S.1 S.2.1 dX_exchangeMq_30 rfl (lv_at hl 2 rfl) ?_
    refine lv_bipush (v := 64) S.1 S.2.1 dX_exchangeMq_31 (by decide) ?_
    refine cl_i (As := [.int 64]) (rest := [.ref a.1]) S hN hK hP hD hS hA hl.1 (c_X_irHas l D a _ pc ac lk mq ma mb ir sw io dl ha rd sn md kf kb cn pf co ou 64) k_X_233 (rc_X hK hP) ⟨by decide, by decide⟩ rfl rfl (Nat.le_of_ble_eq_true rfl) ⟨Nat.le_refl _, Nat.le_refl _⟩ dX_exchangeMq_33 (fun r u H locs hw hP hD hS => ?_)
    obtain ⟨g4, rfl, rfl⟩ | ⟨g5, rfl, rfl⟩ := hw
    · refine lv_if_eq (tgt := 45) S.1 S.2.1 dX_exchangeMq_36 (by decide) (fun _ => ?_) (fun g6 => absurd (by decide) g6)
      refine lv_iload_n S.1 S.2.1 dX_exchangeMq_45 rfl (lv_at hl 0 rfl) ?_
      refine p_X_X_ac S hK hP hD hS dX_exchangeMq_46 (fun H locs hP hD hS => ?_)
      refine lv_iconst (v := 0) S.1 S.2.1 dX_exchangeMq_49 (by decide) ?_
      exact rt_i S hr hk hK hP hD hS ((by simp [mu31, g1, g4])) dX_exchangeMq_50
    · refine lv_if_eq (tgt := 45) S.1 S.2.1 dX_exchangeMq_36 (by decide) (fun g7 => absurd g7 (by decide)) (fun _ => ?_)
      refine lv_iload_n S.1 S.2.1 dX_exchangeMq_39 rfl (lv_at hl 0 rfl) ?_
      refine lv_iload_n S.1 S.2.1 dX_exchangeMq_40 rfl (lv_at hl 1 rfl) ?_
      refine lv_ior S.1 S.2.1 dX_exchangeMq_41 ?_
      refine lv_goto (tgt := 46) S.1 S.2.1 dX_exchangeMq_42 (by decide) ?_
      refine p_X_X_ac S hK hP hD hS dX_exchangeMq_46 (fun H locs hP hD hS => ?_)
      refine lv_iconst (v := 0) S.1 S.2.1 dX_exchangeMq_49 (by decide) ?_
      exact rt_i S hr hk hK hP hD hS ((by simp [mu31, g1, g5])) dX_exchangeMq_50
  · refine lv_if_eq (tgt := 29) S.1 S.2.1 dX_exchangeMq_16 (by decide) (fun g8 => absurd g8 (by decide)) (fun _ => ?_)
    refine lv_aload_n S.1 S.2.1 dX_exchangeMq_19 rfl (lv_at hl 2 rfl) ?_
    refine lv_aload_n S.1 S.2.1 dX_exchangeMq_20 rfl (lv_at hl 2 rfl) ?_
    refine g_X_X_ac S hK hP dX_exchangeMq_21 ?_
    refine p_X_X_mq S hK hP hD hS dX_exchangeMq_24 (fun H locs hP hD hS => ?_)
    refine lv_iconst (v := 0) S.1 S.2.1 dX_exchangeMq_27 (by decide) ?_
    refine lv_istore_n S.1 S.2.1 dX_exchangeMq_28 rfl hl (by decide) rfl (fun ls hl => ?_)
    have hl : lv_has ls 3 [(2, .int 0), (1, .int mq), (0, .ref a.1)] := hl
    refine lv_aload_n S.1 S.2.1 dX_exchangeMq_29 rfl (lv_at hl 2 rfl) ?_
    refine lv_aload_n S.1 S.2.1 dX_exchangeMq_30 rfl (lv_at hl 2 rfl) ?_
    refine lv_bipush (v := 64) S.1 S.2.1 dX_exchangeMq_31 (by decide) ?_
    refine cl_i (As := [.int 64]) (rest := [.ref a.1]) S hN hK hP hD hS hA hl.1 (c_X_irHas l D a _ pc ac lk ac ma mb ir sw io dl ha rd sn md kf kb cn pf co ou 64) k_X_233 (rc_X hK hP) ⟨by decide, by decide⟩ rfl rfl (Nat.le_of_ble_eq_true rfl) ⟨Nat.le_refl _, Nat.le_refl _⟩ dX_exchangeMq_33 (fun r u H locs hw hP hD hS => ?_)
    obtain ⟨g9, rfl, rfl⟩ | ⟨g10, rfl, rfl⟩ := hw
    · refine lv_if_eq (tgt := 45) S.1 S.2.1 dX_exchangeMq_36 (by decide) (fun _ => ?_) (fun g11 => absurd (by decide) g11)
      refine lv_iload_n S.1 S.2.1 dX_exchangeMq_45 rfl (lv_at hl 0 rfl) ?_
      refine p_X_X_ac S hK hP hD hS dX_exchangeMq_46 (fun H locs hP hD hS => ?_)
      refine lv_iconst (v := 0) S.1 S.2.1 dX_exchangeMq_49 (by decide) ?_
      exact rt_i S hr hk hK hP hD hS ((by simp [mu31, g2, g9])) dX_exchangeMq_50
    · refine lv_if_eq (tgt := 45) S.1 S.2.1 dX_exchangeMq_36 (by decide) (fun g12 => absurd g12 (by decide)) (fun _ => ?_)
      refine lv_iload_n S.1 S.2.1 dX_exchangeMq_39 rfl (lv_at hl 0 rfl) ?_
      refine lv_iload_n S.1 S.2.1 dX_exchangeMq_40 rfl (lv_at hl 1 rfl) ?_
      refine lv_ior S.1 S.2.1 dX_exchangeMq_41 ?_
      refine lv_goto (tgt := 46) S.1 S.2.1 dX_exchangeMq_42 (by decide) ?_
      refine p_X_X_ac S hK hP hD hS dX_exchangeMq_46 (fun H locs hP hD hS => ?_)
      refine lv_iconst (v := 0) S.1 S.2.1 dX_exchangeMq_49 (by decide) ?_
      exact rt_i S hr hk hK hP hD hS ((by simp [mu31, g2, g10])) dX_exchangeMq_50

set_option maxHeartbeats 4000000 in
set_option maxRecDepth 100000 in
theorem c_X_chooseDevice (l : Launch) (D : va_G) (a : AX) (sz : Nat) (pc ac lk mq ma mb ir sw io dl ha rd sn md kf kb cn pf : Int32) (co ou : Nat → Int32) : MI l D (wx a) (tx a) sz yX_chooseDevice cX_chooseDevice 1 (some .int) 0 [.ref a.1] (pc, ac, lk, mq, ma, mb, ir, sw, io, dl, ha, rd, sn, md, kf, kb, cn, pf, co, ou) (fun r u => (r, u) = mu32 (pc, ac, lk, mq, ma, mb, ir, sw, io, dl, ha, rd, sn, md, kf, kb, cn, pf, co, ou)) := by
  refine en_i RX rfl (by decide) (Nat.le_of_ble_eq_true rfl) ?_
  intro p e s m below meth c A ls S hr hk hA hN hK hP hD hS hl
  have hl : lv_has ls 1 [(0, .ref a.1)] := hl
  refine lv_aload_n S.1 S.2.1 dX_chooseDevice_0 rfl (lv_at hl 0 rfl) ?_
  refine g_X_X_ir S hK hP dX_chooseDevice_1 ?_
  refine lv_bipush (v := 8) S.1 S.2.1 dX_chooseDevice_4 (by decide) ?_
  refine lv_idiv S.1 S.2.1 dX_chooseDevice_6 (by decide) ?_
  refine lv_bipush (v := 63) S.1 S.2.1 dX_chooseDevice_7 (by decide) ?_
  refine lv_iand S.1 S.2.1 dX_chooseDevice_9 ?_
  by_cases g1 : ((ir / 8) &&& 63) = 0
  · refine lv_tableIn (off := 34) (tgt := 44) S.1 S.2.1 dX_chooseDevice_10 (by rw [g1]; decide +kernel) (by rw [g1]; decide +kernel) (by rw [g1]; decide +kernel) (by decide) ?_
    refine lv_bipush (v := 33) S.1 S.2.1 dX_chooseDevice_44 (by decide) ?_
    exact rt_i S hr hk hK hP hD hS ((by simp [mu32, g1])) dX_chooseDevice_46
  by_cases g2 : ((ir / 8) &&& 63) = 1
  · refine lv_tableIn (off := 43) (tgt := 53) S.1 S.2.1 dX_chooseDevice_10 (by rw [g2]; decide +kernel) (by rw [g2]; decide +kernel) (by rw [g2]; decide +kernel) (by decide) ?_
    refine lv_iconst (v := 0) S.1 S.2.1 dX_chooseDevice_53 (by decide) ?_
    exact rt_i S hr hk hK hP hD hS ((by simp [mu32, g1, g2])) dX_chooseDevice_54
  by_cases g3 : ((ir / 8) &&& 63) = 2
  · refine lv_tableIn (off := 43) (tgt := 53) S.1 S.2.1 dX_chooseDevice_10 (by rw [g3]; decide +kernel) (by rw [g3]; decide +kernel) (by rw [g3]; decide +kernel) (by decide) ?_
    refine lv_iconst (v := 0) S.1 S.2.1 dX_chooseDevice_53 (by decide) ?_
    exact rt_i S hr hk hK hP hD hS ((by simp [mu32, g1, g2, g3])) dX_chooseDevice_54
  by_cases g4 : ((ir / 8) &&& 63) = 3
  · refine lv_tableIn (off := 37) (tgt := 47) S.1 S.2.1 dX_chooseDevice_10 (by rw [g4]; decide +kernel) (by rw [g4]; decide +kernel) (by rw [g4]; decide +kernel) (by decide) ?_
    refine lv_bipush (v := 34) S.1 S.2.1 dX_chooseDevice_47 (by decide) ?_
    exact rt_i S hr hk hK hP hD hS ((by simp [mu32, g1, g2, g3, g4])) dX_chooseDevice_49
  by_cases g5 : ((ir / 8) &&& 63) = 4
  · refine lv_tableIn (off := 40) (tgt := 50) S.1 S.2.1 dX_chooseDevice_10 (by rw [g5]; decide +kernel) (by rw [g5]; decide +kernel) (by rw [g5]; decide +kernel) (by decide) ?_
    refine lv_bipush (v := 36) S.1 S.2.1 dX_chooseDevice_50 (by decide) ?_
    exact rt_i S hr hk hK hP hD hS ((by simp [mu32, g1, g2, g3, g4, g5])) dX_chooseDevice_52
  refine lv_tableOut (tgt := 53) S.1 S.2.1 dX_chooseDevice_10 (by have n0 := lv_neT g1 (a := 0) (by decide +kernel); have n1 := lv_neT g2 (a := 1) (by decide +kernel); have n2 := lv_neT g3 (a := 2) (by decide +kernel); have n3 := lv_neT g4 (a := 3) (by decide +kernel); have n4 := lv_neT g5 (a := 4) (by decide +kernel); omega) (by decide) ?_
  refine lv_iconst (v := 0) S.1 S.2.1 dX_chooseDevice_53 (by decide) ?_
  exact rt_i S hr hk hK hP hD hS ((by simp [mu32, g1, g2, g3, g4, g5])) dX_chooseDevice_54

set_option maxHeartbeats 4000000 in
set_option maxRecDepth 100000 in
theorem c_X_turnInterrupts (l : Launch) (D : va_G) (a : AX) (sz : Nat) (pc ac lk mq ma mb ir sw io dl ha rd sn md kf kb cn pf : Int32) (co ou : Nat → Int32) : MI l D (wx a) (tx a) sz yX_turnInterrupts cX_turnInterrupts 1 (some .int) 1 [.ref a.1] (pc, ac, lk, mq, ma, mb, ir, sw, io, dl, ha, rd, sn, md, kf, kb, cn, pf, co, ou) (fun r u => (r, u) = mu33 (pc, ac, lk, mq, ma, mb, ir, sw, io, dl, ha, rd, sn, md, kf, kb, cn, pf, co, ou)) := by
  refine en_i RX rfl (by decide) (Nat.le_of_ble_eq_true rfl) ?_
  intro p e s m below meth c A ls S hr hk hA hN hK hP hD hS hl
  have hl : lv_has ls 1 [(0, .ref a.1)] := hl
  refine lv_aload_n S.1 S.2.1 dX_turnInterrupts_0 rfl (lv_at hl 0 rfl) ?_
  refine lv_iconst (v := 1) S.1 S.2.1 dX_turnInterrupts_1 (by decide) ?_
  refine cl_i (As := [.int 1]) (rest := []) S hN hK hP hD hS hA hl.1 (c_X_irHas l D a _ pc ac lk mq ma mb ir sw io dl ha rd sn md kf kb cn pf co ou 1) k_X_233 (rc_X hK hP) ⟨by decide, by decide⟩ rfl rfl (Nat.le_of_ble_eq_true rfl) ⟨Nat.le_refl _, Nat.le_refl _⟩ dX_turnInterrupts_2 (fun r u H locs hw hP hD hS => ?_)
  obtain ⟨g1, rfl, rfl⟩ | ⟨g2, rfl, rfl⟩ := hw
  · refine lv_if_eq (tgt := 18) S.1 S.2.1 dX_turnInterrupts_5 (by decide) (fun _ => ?_) (fun g3 => absurd (by decide) g3)
    refine lv_aload_n S.1 S.2.1 dX_turnInterrupts_18 rfl (lv_at hl 0 rfl) ?_
    refine lv_iconst (v := 2) S.1 S.2.1 dX_turnInterrupts_19 (by decide) ?_
    refine cl_i (As := [.int 2]) (rest := []) S hN hK hP hD hS hA hl.1 (c_X_irHas l D a _ pc ac lk mq ma mb ir sw io dl ha rd sn md kf kb cn pf co ou 2) k_X_233 (rc_X hK hP) ⟨by decide, by decide⟩ rfl rfl (Nat.le_of_ble_eq_true rfl) ⟨Nat.le_refl _, Nat.le_refl _⟩ dX_turnInterrupts_20 (fun r u H locs hw hP hD hS => ?_)
    obtain ⟨g4, rfl, rfl⟩ | ⟨g5, rfl, rfl⟩ := hw
    · refine lv_if_eq (tgt := 31) S.1 S.2.1 dX_turnInterrupts_23 (by decide) (fun _ => ?_) (fun g6 => absurd (by decide) g6)
      refine lv_iconst (v := 0) S.1 S.2.1 dX_turnInterrupts_31 (by decide) ?_
      exact rt_i S hr hk hK hP hD hS ((by simp [mu33, g1, g4])) dX_turnInterrupts_32
    · refine lv_if_eq (tgt := 31) S.1 S.2.1 dX_turnInterrupts_23 (by decide) (fun g7 => absurd g7 (by decide)) (fun _ => ?_)
      refine lv_aload_n S.1 S.2.1 dX_turnInterrupts_26 rfl (lv_at hl 0 rfl) ?_
      refine lv_iconst (v := 0) S.1 S.2.1 dX_turnInterrupts_27 (by decide) ?_
      refine p_X_X_ion S hK hP hD hS rfl rfl dX_turnInterrupts_28 (fun H locs hP hD hS => ?_)
      refine lv_iconst (v := 0) S.1 S.2.1 dX_turnInterrupts_31 (by decide) ?_
      exact rt_i S hr hk hK hP hD hS ((by simp [mu33, g1, g5])) dX_turnInterrupts_32
  · refine lv_if_eq (tgt := 18) S.1 S.2.1 dX_turnInterrupts_5 (by decide) (fun g8 => absurd g8 (by decide)) (fun _ => ?_)
    refine lv_aload_n S.1 S.2.1 dX_turnInterrupts_8 rfl (lv_at hl 0 rfl) ?_
    refine lv_iconst (v := 1) S.1 S.2.1 dX_turnInterrupts_9 (by decide) ?_
    refine p_X_X_ion S hK hP hD hS rfl rfl dX_turnInterrupts_10 (fun H locs hP hD hS => ?_)
    refine lv_aload_n S.1 S.2.1 dX_turnInterrupts_13 rfl (lv_at hl 0 rfl) ?_
    refine lv_iconst (v := 1) S.1 S.2.1 dX_turnInterrupts_14 (by decide) ?_
    refine p_X_X_delay S hK hP hD hS rfl rfl dX_turnInterrupts_15 (fun H locs hP hD hS => ?_)
    refine lv_aload_n S.1 S.2.1 dX_turnInterrupts_18 rfl (lv_at hl 0 rfl) ?_
    refine lv_iconst (v := 2) S.1 S.2.1 dX_turnInterrupts_19 (by decide) ?_
    refine cl_i (As := [.int 2]) (rest := []) S hN hK hP hD hS hA hl.1 (c_X_irHas l D a _ pc ac lk mq ma mb ir sw 1 1 ha rd sn md kf kb cn pf co ou 2) k_X_233 (rc_X hK hP) ⟨by decide, by decide⟩ rfl rfl (Nat.le_of_ble_eq_true rfl) ⟨Nat.le_refl _, Nat.le_refl _⟩ dX_turnInterrupts_20 (fun r u H locs hw hP hD hS => ?_)
    obtain ⟨g9, rfl, rfl⟩ | ⟨g10, rfl, rfl⟩ := hw
    · refine lv_if_eq (tgt := 31) S.1 S.2.1 dX_turnInterrupts_23 (by decide) (fun _ => ?_) (fun g11 => absurd (by decide) g11)
      refine lv_iconst (v := 0) S.1 S.2.1 dX_turnInterrupts_31 (by decide) ?_
      exact rt_i S hr hk hK hP hD hS ((by simp [mu33, g2, g9])) dX_turnInterrupts_32
    · refine lv_if_eq (tgt := 31) S.1 S.2.1 dX_turnInterrupts_23 (by decide) (fun g12 => absurd g12 (by decide)) (fun _ => ?_)
      refine lv_aload_n S.1 S.2.1 dX_turnInterrupts_26 rfl (lv_at hl 0 rfl) ?_
      refine lv_iconst (v := 0) S.1 S.2.1 dX_turnInterrupts_27 (by decide) ?_
      refine p_X_X_ion S hK hP hD hS rfl rfl dX_turnInterrupts_28 (fun H locs hP hD hS => ?_)
      refine lv_iconst (v := 0) S.1 S.2.1 dX_turnInterrupts_31 (by decide) ?_
      exact rt_i S hr hk hK hP hD hS ((by simp [mu33, g2, g10])) dX_turnInterrupts_32

set_option maxHeartbeats 4000000 in
set_option maxRecDepth 100000 in
theorem c_X_askKeyboard (l : Launch) (D : va_G) (a : AX) (sz : Nat) (pc ac lk mq ma mb ir sw io dl ha rd sn md kf kb cn pf : Int32) (co ou : Nat → Int32) : MI l D (wx a) (tx a) sz yX_askKeyboard cX_askKeyboard 1 (some .int) 1 [.ref a.1] (pc, ac, lk, mq, ma, mb, ir, sw, io, dl, ha, rd, sn, md, kf, kb, cn, pf, co, ou) (fun r u => (r, u) = mu34 (pc, ac, lk, mq, ma, mb, ir, sw, io, dl, ha, rd, sn, md, kf, kb, cn, pf, co, ou)) := by
  refine en_i RX rfl (by decide) (Nat.le_of_ble_eq_true rfl) ?_
  intro p e s m below meth c A ls S hr hk hA hN hK hP hD hS hl
  have hl : lv_has ls 1 [(0, .ref a.1)] := hl
  refine lv_aload_n S.1 S.2.1 dX_askKeyboard_0 rfl (lv_at hl 0 rfl) ?_
  refine lv_iconst (v := 1) S.1 S.2.1 dX_askKeyboard_1 (by decide) ?_
  refine cl_i (As := [.int 1]) (rest := []) S hN hK hP hD hS hA hl.1 (c_X_irHas l D a _ pc ac lk mq ma mb ir sw io dl ha rd sn md kf kb cn pf co ou 1) k_X_233 (rc_X hK hP) ⟨by decide, by decide⟩ rfl rfl (Nat.le_of_ble_eq_true rfl) ⟨Nat.le_refl _, Nat.le_refl _⟩ dX_askKeyboard_2 (fun r u H locs hw hP hD hS => ?_)
  obtain ⟨g1, rfl, rfl⟩ | ⟨g2, rfl, rfl⟩ := hw
  · refine lv_if_eq (tgt := 22) S.1 S.2.1 dX_askKeyboard_5 (by decide) (fun _ => ?_) (fun g3 => absurd (by decide) g3)
    refine lv_aload_n S.1 S.2.1 dX_askKeyboard_22 rfl (lv_at hl 0 rfl) ?_
    refine lv_iconst (v := 2) S.1 S.2.1 dX_askKeyboard_23 (by decide) ?_
    refine cl_i (As := [.int 2]) (rest := []) S hN hK hP hD hS hA hl.1 (c_X_irHas l D a _ pc ac lk mq ma mb ir sw io dl ha rd sn md kf kb cn pf co ou 2) k_X_233 (rc_X hK hP) ⟨by decide, by decide⟩ rfl rfl (Nat.le_of_ble_eq_true rfl) ⟨Nat.le_refl _, Nat.le_refl _⟩ dX_askKeyboard_24 (fun r u H locs hw hP hD hS => ?_)
    obtain ⟨g4, rfl, rfl⟩ | ⟨g5, rfl, rfl⟩ := hw
    · refine lv_if_eq (tgt := 43) S.1 S.2.1 dX_askKeyboard_27 (by decide) (fun _ => ?_) (fun g6 => absurd (by decide) g6)
      refine lv_aload_n S.1 S.2.1 dX_askKeyboard_43 rfl (lv_at hl 0 rfl) ?_
      refine lv_iconst (v := 4) S.1 S.2.1 dX_askKeyboard_44 (by decide) ?_
      refine cl_i (As := [.int 4]) (rest := []) S hN hK hP hD hS hA hl.1 (c_X_irHas l D a _ pc ac lk mq ma mb ir sw io dl ha rd sn md kf kb cn pf co ou 4) k_X_233 (rc_X hK hP) ⟨by decide, by decide⟩ rfl rfl (Nat.le_of_ble_eq_true rfl) ⟨Nat.le_refl _, Nat.le_refl _⟩ dX_askKeyboard_45 (fun r u H locs hw hP hD hS => ?_)
      obtain ⟨g7, rfl, rfl⟩ | ⟨g8, rfl, rfl⟩ := hw
      · refine lv_if_eq (tgt := 56) S.1 S.2.1 dX_askKeyboard_48 (by decide) (fun _ => ?_) (fun g9 => absurd (by decide) g9)
        refine lv_iconst (v := 0) S.1 S.2.1 dX_askKeyboard_56 (by decide) ?_
        exact rt_i S hr hk hK hP hD hS ((by simp [mu34, g1, g4, g7])) dX_askKeyboard_57
      · refine lv_if_eq (tgt := 56) S.1 S.2.1 dX_askKeyboard_48 (by decide) (fun g10 => absurd g10 (by decide)) (fun _ => ?_)
        refine lv_bipush (v := 35) S.1 S.2.1 dX_askKeyboard_51 (by decide) ?_
        refine lv_goto (tgt := 57) S.1 S.2.1 dX_askKeyboard_53 (by decide) ?_
        exact rt_i S hr hk hK hP hD hS ((by simp [mu34, g1, g4, g8])) dX_askKeyboard_57
    · refine lv_if_eq (tgt := 43) S.1 S.2.1 dX_askKeyboard_27 (by decide) (fun g11 => absurd g11 (by decide)) (fun _ => ?_)
      refine lv_aload_n S.1 S.2.1 dX_askKeyboard_30 rfl (lv_at hl 0 rfl) ?_
      refine g_X_X_keyboard S hK hP dX_askKeyboard_31 ?_
      refine lv_iconst (v := 0) S.1 S.2.1 dX_askKeyboard_34 (by decide) ?_
      refine p_X_K_flag S hN hK hP hD hS rfl rfl dX_askKeyboard_35 (fun H locs hP hD hS => ?_)
      refine lv_aload_n S.1 S.2.1 dX_askKeyboard_38 rfl (lv_at hl 0 rfl) ?_
      refine lv_iconst (v := 0) S.1 S.2.1 dX_askKeyboard_39 (by decide) ?_
      refine p_X_X_ac S hK hP hD hS dX_askKeyboard_40 (fun H locs hP hD hS => ?_)
      refine lv_aload_n S.1 S.2.1 dX_askKeyboard_43 rfl (lv_at hl 0 rfl) ?_
      refine lv_iconst (v := 4) S.1 S.2.1 dX_askKeyboard_44 (by decide) ?_
      refine cl_i (As := [.int 4]) (rest := []) S hN hK hP hD hS hA hl.1 (c_X_irHas l D a _ pc 0 lk mq ma mb ir sw io dl ha rd sn md 0 kb cn pf co ou 4) k_X_233 (rc_X hK hP) ⟨by decide, by decide⟩ rfl rfl (Nat.le_of_ble_eq_true rfl) ⟨Nat.le_refl _, Nat.le_refl _⟩ dX_askKeyboard_45 (fun r u H locs hw hP hD hS => ?_)
      obtain ⟨g12, rfl, rfl⟩ | ⟨g13, rfl, rfl⟩ := hw
      · refine lv_if_eq (tgt := 56) S.1 S.2.1 dX_askKeyboard_48 (by decide) (fun _ => ?_) (fun g14 => absurd (by decide) g14)
        refine lv_iconst (v := 0) S.1 S.2.1 dX_askKeyboard_56 (by decide) ?_
        exact rt_i S hr hk hK hP hD hS ((by simp [mu34, g1, g5, g12])) dX_askKeyboard_57
      · refine lv_if_eq (tgt := 56) S.1 S.2.1 dX_askKeyboard_48 (by decide) (fun g15 => absurd g15 (by decide)) (fun _ => ?_)
        refine lv_bipush (v := 35) S.1 S.2.1 dX_askKeyboard_51 (by decide) ?_
        refine lv_goto (tgt := 57) S.1 S.2.1 dX_askKeyboard_53 (by decide) ?_
        exact rt_i S hr hk hK hP hD hS ((by simp [mu34, g1, g5, g13])) dX_askKeyboard_57
  · refine lv_if_eq (tgt := 22) S.1 S.2.1 dX_askKeyboard_5 (by decide) (fun g16 => absurd g16 (by decide)) (fun _ => ?_)
    refine lv_aload_n S.1 S.2.1 dX_askKeyboard_8 rfl (lv_at hl 0 rfl) ?_
    refine g_X_X_keyboard S hK hP dX_askKeyboard_9 ?_
    refine g_X_K_flag S hN hK hP dX_askKeyboard_12 ?_
    refine lv_if_eq (tgt := 22) S.1 S.2.1 dX_askKeyboard_15 (by decide) (fun g17 => ?_) (fun g17 => ?_)
    · refine lv_aload_n S.1 S.2.1 dX_askKeyboard_22 rfl (lv_at hl 0 rfl) ?_
      refine lv_iconst (v := 2) S.1 S.2.1 dX_askKeyboard_23 (by decide) ?_
      refine cl_i (As := [.int 2]) (rest := []) S hN hK hP hD hS hA hl.1 (c_X_irHas l D a _ pc ac lk mq ma mb ir sw io dl ha rd sn md kf kb cn pf co ou 2) k_X_233 (rc_X hK hP) ⟨by decide, by decide⟩ rfl rfl (Nat.le_of_ble_eq_true rfl) ⟨Nat.le_refl _, Nat.le_refl _⟩ dX_askKeyboard_24 (fun r u H locs hw hP hD hS => ?_)
      obtain ⟨g18, rfl, rfl⟩ | ⟨g19, rfl, rfl⟩ := hw
      · refine lv_if_eq (tgt := 43) S.1 S.2.1 dX_askKeyboard_27 (by decide) (fun _ => ?_) (fun g20 => absurd (by decide) g20)
        refine lv_aload_n S.1 S.2.1 dX_askKeyboard_43 rfl (lv_at hl 0 rfl) ?_
        refine lv_iconst (v := 4) S.1 S.2.1 dX_askKeyboard_44 (by decide) ?_
        refine cl_i (As := [.int 4]) (rest := []) S hN hK hP hD hS hA hl.1 (c_X_irHas l D a _ pc ac lk mq ma mb ir sw io dl ha rd sn md kf kb cn pf co ou 4) k_X_233 (rc_X hK hP) ⟨by decide, by decide⟩ rfl rfl (Nat.le_of_ble_eq_true rfl) ⟨Nat.le_refl _, Nat.le_refl _⟩ dX_askKeyboard_45 (fun r u H locs hw hP hD hS => ?_)
        obtain ⟨g21, rfl, rfl⟩ | ⟨g22, rfl, rfl⟩ := hw
        · refine lv_if_eq (tgt := 56) S.1 S.2.1 dX_askKeyboard_48 (by decide) (fun _ => ?_) (fun g23 => absurd (by decide) g23)
          refine lv_iconst (v := 0) S.1 S.2.1 dX_askKeyboard_56 (by decide) ?_
          exact rt_i S hr hk hK hP hD hS ((by simp [mu34, g2, g17, g18, g21])) dX_askKeyboard_57
        · refine lv_if_eq (tgt := 56) S.1 S.2.1 dX_askKeyboard_48 (by decide) (fun g24 => absurd g24 (by decide)) (fun _ => ?_)
          refine lv_bipush (v := 35) S.1 S.2.1 dX_askKeyboard_51 (by decide) ?_
          refine lv_goto (tgt := 57) S.1 S.2.1 dX_askKeyboard_53 (by decide) ?_
          exact rt_i S hr hk hK hP hD hS ((by simp [mu34, g2, g17, g18, g22])) dX_askKeyboard_57
      · refine lv_if_eq (tgt := 43) S.1 S.2.1 dX_askKeyboard_27 (by decide) (fun g25 => absurd g25 (by decide)) (fun _ => ?_)
        refine lv_aload_n S.1 S.2.1 dX_askKeyboard_30 rfl (lv_at hl 0 rfl) ?_
        refine g_X_X_keyboard S hK hP dX_askKeyboard_31 ?_
        refine lv_iconst (v := 0) S.1 S.2.1 dX_askKeyboard_34 (by decide) ?_
        refine p_X_K_flag S hN hK hP hD hS rfl rfl dX_askKeyboard_35 (fun H locs hP hD hS => ?_)
        refine lv_aload_n S.1 S.2.1 dX_askKeyboard_38 rfl (lv_at hl 0 rfl) ?_
        refine lv_iconst (v := 0) S.1 S.2.1 dX_askKeyboard_39 (by decide) ?_
        refine p_X_X_ac S hK hP hD hS dX_askKeyboard_40 (fun H locs hP hD hS => ?_)
        refine lv_aload_n S.1 S.2.1 dX_askKeyboard_43 rfl (lv_at hl 0 rfl) ?_
        refine lv_iconst (v := 4) S.1 S.2.1 dX_askKeyboard_44 (by decide) ?_
        refine cl_i (As := [.int 4]) (rest := []) S hN hK hP hD hS hA hl.1 (c_X_irHas l D a _ pc 0 lk mq ma mb ir sw io dl ha rd sn md 0 kb cn pf co ou 4) k_X_233 (rc_X hK hP) ⟨by decide, by decide⟩ rfl rfl (Nat.le_of_ble_eq_true rfl) ⟨Nat.le_refl _, Nat.le_refl _⟩ dX_askKeyboard_45 (fun r u H locs hw hP hD hS => ?_)
        obtain ⟨g26, rfl, rfl⟩ | ⟨g27, rfl, rfl⟩ := hw
        · refine lv_if_eq (tgt := 56) S.1 S.2.1 dX_askKeyboard_48 (by decide) (fun _ => ?_) (fun g28 => absurd (by decide) g28)
          refine lv_iconst (v := 0) S.1 S.2.1 dX_askKeyboard_56 (by decide) ?_
          exact rt_i S hr hk hK hP hD hS ((by simp [mu34, g2, g17, g19, g26])) dX_askKeyboard_57
        · refine lv_if_eq (tgt := 56) S.1 S.2.1 dX_askKeyboard_48 (by decide) (fun g29 => absurd g29 (by decide)) (fun _ => ?_)
          refine lv_bipush (v := 35) S.1 S.2.1 dX_askKeyboard_51 (by decide) ?_
          refine lv_goto (tgt := 57) S.1 S.2.1 dX_askKeyboard_53 (by decide) ?_
          exact rt_i S hr hk hK hP hD hS ((by simp [mu34, g2, g17, g19, g27])) dX_askKeyboard_57
    · refine lv_aload_n S.1 S.2.1 dX_askKeyboard_18 rfl (lv_at hl 0 rfl) ?_
      refine cl_v (As := []) (rest := []) S hN hK hP hD hS hA hl.1 (c_X_advancePc l D a _ pc ac lk mq ma mb ir sw io dl ha rd sn md kf kb cn pf co ou ) k_X_230 (rc_X hK hP) ⟨by decide, by decide⟩ rfl rfl (Nat.le_of_ble_eq_true rfl) ⟨Nat.le_refl _, Nat.le_refl _⟩ dX_askKeyboard_19 (fun u H locs hw hP hD hS => ?_)
      obtain rfl := hw
      refine lv_aload_n S.1 S.2.1 dX_askKeyboard_22 rfl (lv_at hl 0 rfl) ?_
      refine lv_iconst (v := 2) S.1 S.2.1 dX_askKeyboard_23 (by decide) ?_
      refine cl_i (As := [.int 2]) (rest := []) S hN hK hP hD hS hA hl.1 (c_X_irHas l D a _ ((pc + 1) &&& 4095) ac lk mq ma mb ir sw io dl ha rd sn md kf kb cn pf co ou 2) k_X_233 (rc_X hK hP) ⟨by decide, by decide⟩ rfl rfl (Nat.le_of_ble_eq_true rfl) ⟨Nat.le_refl _, Nat.le_refl _⟩ dX_askKeyboard_24 (fun r u H locs hw hP hD hS => ?_)
      obtain ⟨g30, rfl, rfl⟩ | ⟨g31, rfl, rfl⟩ := hw
      · refine lv_if_eq (tgt := 43) S.1 S.2.1 dX_askKeyboard_27 (by decide) (fun _ => ?_) (fun g32 => absurd (by decide) g32)
        refine lv_aload_n S.1 S.2.1 dX_askKeyboard_43 rfl (lv_at hl 0 rfl) ?_
        refine lv_iconst (v := 4) S.1 S.2.1 dX_askKeyboard_44 (by decide) ?_
        refine cl_i (As := [.int 4]) (rest := []) S hN hK hP hD hS hA hl.1 (c_X_irHas l D a _ ((pc + 1) &&& 4095) ac lk mq ma mb ir sw io dl ha rd sn md kf kb cn pf co ou 4) k_X_233 (rc_X hK hP) ⟨by decide, by decide⟩ rfl rfl (Nat.le_of_ble_eq_true rfl) ⟨Nat.le_refl _, Nat.le_refl _⟩ dX_askKeyboard_45 (fun r u H locs hw hP hD hS => ?_)
        obtain ⟨g33, rfl, rfl⟩ | ⟨g34, rfl, rfl⟩ := hw
        · refine lv_if_eq (tgt := 56) S.1 S.2.1 dX_askKeyboard_48 (by decide) (fun _ => ?_) (fun g35 => absurd (by decide) g35)
          refine lv_iconst (v := 0) S.1 S.2.1 dX_askKeyboard_56 (by decide) ?_
          exact rt_i S hr hk hK hP hD hS ((by simp [mu34, g2, g17, g30, g33])) dX_askKeyboard_57
        · refine lv_if_eq (tgt := 56) S.1 S.2.1 dX_askKeyboard_48 (by decide) (fun g36 => absurd g36 (by decide)) (fun _ => ?_)
          refine lv_bipush (v := 35) S.1 S.2.1 dX_askKeyboard_51 (by decide) ?_
          refine lv_goto (tgt := 57) S.1 S.2.1 dX_askKeyboard_53 (by decide) ?_
          exact rt_i S hr hk hK hP hD hS ((by simp [mu34, g2, g17, g30, g34])) dX_askKeyboard_57
      · refine lv_if_eq (tgt := 43) S.1 S.2.1 dX_askKeyboard_27 (by decide) (fun g37 => absurd g37 (by decide)) (fun _ => ?_)
        refine lv_aload_n S.1 S.2.1 dX_askKeyboard_30 rfl (lv_at hl 0 rfl) ?_
        refine g_X_X_keyboard S hK hP dX_askKeyboard_31 ?_
        refine lv_iconst (v := 0) S.1 S.2.1 dX_askKeyboard_34 (by decide) ?_
        refine p_X_K_flag S hN hK hP hD hS rfl rfl dX_askKeyboard_35 (fun H locs hP hD hS => ?_)
        refine lv_aload_n S.1 S.2.1 dX_askKeyboard_38 rfl (lv_at hl 0 rfl) ?_
        refine lv_iconst (v := 0) S.1 S.2.1 dX_askKeyboard_39 (by decide) ?_
        refine p_X_X_ac S hK hP hD hS dX_askKeyboard_40 (fun H locs hP hD hS => ?_)
        refine lv_aload_n S.1 S.2.1 dX_askKeyboard_43 rfl (lv_at hl 0 rfl) ?_
        refine lv_iconst (v := 4) S.1 S.2.1 dX_askKeyboard_44 (by decide) ?_
        refine cl_i (As := [.int 4]) (rest := []) S hN hK hP hD hS hA hl.1 (c_X_irHas l D a _ ((pc + 1) &&& 4095) 0 lk mq ma mb ir sw io dl ha rd sn md 0 kb cn pf co ou 4) k_X_233 (rc_X hK hP) ⟨by decide, by decide⟩ rfl rfl (Nat.le_of_ble_eq_true rfl) ⟨Nat.le_refl _, Nat.le_refl _⟩ dX_askKeyboard_45 (fun r u H locs hw hP hD hS => ?_)
        obtain ⟨g38, rfl, rfl⟩ | ⟨g39, rfl, rfl⟩ := hw
        · refine lv_if_eq (tgt := 56) S.1 S.2.1 dX_askKeyboard_48 (by decide) (fun _ => ?_) (fun g40 => absurd (by decide) g40)
          refine lv_iconst (v := 0) S.1 S.2.1 dX_askKeyboard_56 (by decide) ?_
          exact rt_i S hr hk hK hP hD hS ((by simp [mu34, g2, g17, g31, g38])) dX_askKeyboard_57
        · refine lv_if_eq (tgt := 56) S.1 S.2.1 dX_askKeyboard_48 (by decide) (fun g41 => absurd g41 (by decide)) (fun _ => ?_)
          refine lv_bipush (v := 35) S.1 S.2.1 dX_askKeyboard_51 (by decide) ?_
          refine lv_goto (tgt := 57) S.1 S.2.1 dX_askKeyboard_53 (by decide) ?_
          exact rt_i S hr hk hK hP hD hS ((by simp [mu34, g2, g17, g31, g39])) dX_askKeyboard_57

set_option maxHeartbeats 4000000 in
set_option maxRecDepth 100000 in
theorem c_X_readKeyboard (l : Launch) (D : va_G) (a : AX) (sz : Nat) (pc ac lk mq ma mb ir sw io dl ha rd sn md kf kb cn pf : Int32) (co ou : Nat → Int32) : MI l D (wx a) (tx a) sz yX_readKeyboard cX_readKeyboard 1 (some .int) 0 [.ref a.1] (pc, ac, lk, mq, ma, mb, ir, sw, io, dl, ha, rd, sn, md, kf, kb, cn, pf, co, ou) (fun r u => (r, u) = mu35 (pc, ac, lk, mq, ma, mb, ir, sw, io, dl, ha, rd, sn, md, kf, kb, cn, pf, co, ou)) := by
  refine en_i RX rfl (by decide) (Nat.le_of_ble_eq_true rfl) ?_
  intro p e s m below meth c A ls S hr hk hA hN hK hP hD hS hl
  have hl : lv_has ls 1 [(0, .ref a.1)] := hl
  refine lv_aload_n S.1 S.2.1 dX_readKeyboard_0 rfl (lv_at hl 0 rfl) ?_
  refine lv_dup S.1 S.2.1 dX_readKeyboard_1 rfl ?_
  refine g_X_X_ac S hK hP dX_readKeyboard_2 ?_
  refine lv_aload_n S.1 S.2.1 dX_readKeyboard_5 rfl (lv_at hl 0 rfl) ?_
  refine g_X_X_keyboard S hK hP dX_readKeyboard_6 ?_
  refine g_X_K_buffer S hN hK hP dX_readKeyboard_9 ?_
  refine lv_ior S.1 S.2.1 dX_readKeyboard_12 ?_
  refine p_X_X_ac S hK hP hD hS dX_readKeyboard_13 (fun H locs hP hD hS => ?_)
  refine lv_iconst (v := 0) S.1 S.2.1 dX_readKeyboard_16 (by decide) ?_
  exact rt_i S hr hk hK hP hD hS ((by simp [mu35])) dX_readKeyboard_17

set_option maxHeartbeats 4000000 in
set_option maxRecDepth 100000 in
theorem c_X_askPrinter (l : Launch) (D : va_G) (a : AX) (sz : Nat) (pc ac lk mq ma mb ir sw io dl ha rd sn md kf kb cn pf : Int32) (co ou : Nat → Int32) : MI l D (wx a) (tx a) sz yX_askPrinter cX_askPrinter 1 (some .int) 1 [.ref a.1] (pc, ac, lk, mq, ma, mb, ir, sw, io, dl, ha, rd, sn, md, kf, kb, cn, pf, co, ou) (fun r u => (r, u) = mu36 (pc, ac, lk, mq, ma, mb, ir, sw, io, dl, ha, rd, sn, md, kf, kb, cn, pf, co, ou)) := by
  refine en_i RX rfl (by decide) (Nat.le_of_ble_eq_true rfl) ?_
  intro p e s m below meth c A ls S hr hk hA hN hK hP hD hS hl
  have hl : lv_has ls 1 [(0, .ref a.1)] := hl
  refine lv_aload_n S.1 S.2.1 dX_askPrinter_0 rfl (lv_at hl 0 rfl) ?_
  refine lv_iconst (v := 1) S.1 S.2.1 dX_askPrinter_1 (by decide) ?_
  refine cl_i (As := [.int 1]) (rest := []) S hN hK hP hD hS hA hl.1 (c_X_irHas l D a _ pc ac lk mq ma mb ir sw io dl ha rd sn md kf kb cn pf co ou 1) k_X_233 (rc_X hK hP) ⟨by decide, by decide⟩ rfl rfl (Nat.le_of_ble_eq_true rfl) ⟨Nat.le_refl _, Nat.le_refl _⟩ dX_askPrinter_2 (fun r u H locs hw hP hD hS => ?_)
  obtain ⟨g1, rfl, rfl⟩ | ⟨g2, rfl, rfl⟩ := hw
  · refine lv_if_eq (tgt := 22) S.1 S.2.1 dX_askPrinter_5 (by decide) (fun _ => ?_) (fun g3 => absurd (by decide) g3)
    refine lv_aload_n S.1 S.2.1 dX_askPrinter_22 rfl (lv_at hl 0 rfl) ?_
    refine lv_iconst (v := 2) S.1 S.2.1 dX_askPrinter_23 (by decide) ?_
    refine cl_i (As := [.int 2]) (rest := []) S hN hK hP hD hS hA hl.1 (c_X_irHas l D a _ pc ac lk mq ma mb ir sw io dl ha rd sn md kf kb cn pf co ou 2) k_X_233 (rc_X hK hP) ⟨by decide, by decide⟩ rfl rfl (Nat.le_of_ble_eq_true rfl) ⟨Nat.le_refl _, Nat.le_refl _⟩ dX_askPrinter_24 (fun r u H locs hw hP hD hS => ?_)
    obtain ⟨g4, rfl, rfl⟩ | ⟨g5, rfl, rfl⟩ := hw
    · refine lv_if_eq (tgt := 38) S.1 S.2.1 dX_askPrinter_27 (by decide) (fun _ => ?_) (fun g6 => absurd (by decide) g6)
      refine lv_aload_n S.1 S.2.1 dX_askPrinter_38 rfl (lv_at hl 0 rfl) ?_
      refine lv_iconst (v := 4) S.1 S.2.1 dX_askPrinter_39 (by decide) ?_
      refine cl_i (As := [.int 4]) (rest := []) S hN hK hP hD hS hA hl.1 (c_X_irHas l D a _ pc ac lk mq ma mb ir sw io dl ha rd sn md kf kb cn pf co ou 4) k_X_233 (rc_X hK hP) ⟨by decide, by decide⟩ rfl rfl (Nat.le_of_ble_eq_true rfl) ⟨Nat.le_refl _, Nat.le_refl _⟩ dX_askPrinter_40 (fun r u H locs hw hP hD hS => ?_)
      obtain ⟨g7, rfl, rfl⟩ | ⟨g8, rfl, rfl⟩ := hw
      · refine lv_if_eq (tgt := 51) S.1 S.2.1 dX_askPrinter_43 (by decide) (fun _ => ?_) (fun g9 => absurd (by decide) g9)
        refine lv_iconst (v := 0) S.1 S.2.1 dX_askPrinter_51 (by decide) ?_
        exact rt_i S hr hk hK hP hD hS ((by simp [mu36, g1, g4, g7])) dX_askPrinter_52
      · refine lv_if_eq (tgt := 51) S.1 S.2.1 dX_askPrinter_43 (by decide) (fun g10 => absurd g10 (by decide)) (fun _ => ?_)
        refine lv_bipush (v := 37) S.1 S.2.1 dX_askPrinter_46 (by decide) ?_
        refine lv_goto (tgt := 52) S.1 S.2.1 dX_askPrinter_48 (by decide) ?_
        exact rt_i S hr hk hK hP hD hS ((by simp [mu36, g1, g4, g8])) dX_askPrinter_52
    · refine lv_if_eq (tgt := 38) S.1 S.2.1 dX_askPrinter_27 (by decide) (fun g11 => absurd g11 (by decide)) (fun _ => ?_)
      refine lv_aload_n S.1 S.2.1 dX_askPrinter_30 rfl (lv_at hl 0 rfl) ?_
      refine g_X_X_printer S hK hP dX_askPrinter_31 ?_
      refine lv_iconst (v := 0) S.1 S.2.1 dX_askPrinter_34 (by decide) ?_
      refine p_X_P_flag S hN hK hP hD hS rfl rfl dX_askPrinter_35 (fun H locs hP hD hS => ?_)
      refine lv_aload_n S.1 S.2.1 dX_askPrinter_38 rfl (lv_at hl 0 rfl) ?_
      refine lv_iconst (v := 4) S.1 S.2.1 dX_askPrinter_39 (by decide) ?_
      refine cl_i (As := [.int 4]) (rest := []) S hN hK hP hD hS hA hl.1 (c_X_irHas l D a _ pc ac lk mq ma mb ir sw io dl ha rd sn md kf kb cn 0 co ou 4) k_X_233 (rc_X hK hP) ⟨by decide, by decide⟩ rfl rfl (Nat.le_of_ble_eq_true rfl) ⟨Nat.le_refl _, Nat.le_refl _⟩ dX_askPrinter_40 (fun r u H locs hw hP hD hS => ?_)
      obtain ⟨g12, rfl, rfl⟩ | ⟨g13, rfl, rfl⟩ := hw
      · refine lv_if_eq (tgt := 51) S.1 S.2.1 dX_askPrinter_43 (by decide) (fun _ => ?_) (fun g14 => absurd (by decide) g14)
        refine lv_iconst (v := 0) S.1 S.2.1 dX_askPrinter_51 (by decide) ?_
        exact rt_i S hr hk hK hP hD hS ((by simp [mu36, g1, g5, g12])) dX_askPrinter_52
      · refine lv_if_eq (tgt := 51) S.1 S.2.1 dX_askPrinter_43 (by decide) (fun g15 => absurd g15 (by decide)) (fun _ => ?_)
        refine lv_bipush (v := 37) S.1 S.2.1 dX_askPrinter_46 (by decide) ?_
        refine lv_goto (tgt := 52) S.1 S.2.1 dX_askPrinter_48 (by decide) ?_
        exact rt_i S hr hk hK hP hD hS ((by simp [mu36, g1, g5, g13])) dX_askPrinter_52
  · refine lv_if_eq (tgt := 22) S.1 S.2.1 dX_askPrinter_5 (by decide) (fun g16 => absurd g16 (by decide)) (fun _ => ?_)
    refine lv_aload_n S.1 S.2.1 dX_askPrinter_8 rfl (lv_at hl 0 rfl) ?_
    refine g_X_X_printer S hK hP dX_askPrinter_9 ?_
    refine g_X_P_flag S hN hK hP dX_askPrinter_12 ?_
    refine lv_if_eq (tgt := 22) S.1 S.2.1 dX_askPrinter_15 (by decide) (fun g17 => ?_) (fun g17 => ?_)
    · refine lv_aload_n S.1 S.2.1 dX_askPrinter_22 rfl (lv_at hl 0 rfl) ?_
      refine lv_iconst (v := 2) S.1 S.2.1 dX_askPrinter_23 (by decide) ?_
      refine cl_i (As := [.int 2]) (rest := []) S hN hK hP hD hS hA hl.1 (c_X_irHas l D a _ pc ac lk mq ma mb ir sw io dl ha rd sn md kf kb cn pf co ou 2) k_X_233 (rc_X hK hP) ⟨by decide, by decide⟩ rfl rfl (Nat.le_of_ble_eq_true rfl) ⟨Nat.le_refl _, Nat.le_refl _⟩ dX_askPrinter_24 (fun r u H locs hw hP hD hS => ?_)
      obtain ⟨g18, rfl, rfl⟩ | ⟨g19, rfl, rfl⟩ := hw
      · refine lv_if_eq (tgt := 38) S.1 S.2.1 dX_askPrinter_27 (by decide) (fun _ => ?_) (fun g20 => absurd (by decide) g20)
        refine lv_aload_n S.1 S.2.1 dX_askPrinter_38 rfl (lv_at hl 0 rfl) ?_
        refine lv_iconst (v := 4) S.1 S.2.1 dX_askPrinter_39 (by decide) ?_
        refine cl_i (As := [.int 4]) (rest := []) S hN hK hP hD hS hA hl.1 (c_X_irHas l D a _ pc ac lk mq ma mb ir sw io dl ha rd sn md kf kb cn pf co ou 4) k_X_233 (rc_X hK hP) ⟨by decide, by decide⟩ rfl rfl (Nat.le_of_ble_eq_true rfl) ⟨Nat.le_refl _, Nat.le_refl _⟩ dX_askPrinter_40 (fun r u H locs hw hP hD hS => ?_)
        obtain ⟨g21, rfl, rfl⟩ | ⟨g22, rfl, rfl⟩ := hw
        · refine lv_if_eq (tgt := 51) S.1 S.2.1 dX_askPrinter_43 (by decide) (fun _ => ?_) (fun g23 => absurd (by decide) g23)
          refine lv_iconst (v := 0) S.1 S.2.1 dX_askPrinter_51 (by decide) ?_
          exact rt_i S hr hk hK hP hD hS ((by simp [mu36, g2, g17, g18, g21])) dX_askPrinter_52
        · refine lv_if_eq (tgt := 51) S.1 S.2.1 dX_askPrinter_43 (by decide) (fun g24 => absurd g24 (by decide)) (fun _ => ?_)
          refine lv_bipush (v := 37) S.1 S.2.1 dX_askPrinter_46 (by decide) ?_
          refine lv_goto (tgt := 52) S.1 S.2.1 dX_askPrinter_48 (by decide) ?_
          exact rt_i S hr hk hK hP hD hS ((by simp [mu36, g2, g17, g18, g22])) dX_askPrinter_52
      · refine lv_if_eq (tgt := 38) S.1 S.2.1 dX_askPrinter_27 (by decide) (fun g25 => absurd g25 (by decide)) (fun _ => ?_)
        refine lv_aload_n S.1 S.2.1 dX_askPrinter_30 rfl (lv_at hl 0 rfl) ?_
        refine g_X_X_printer S hK hP dX_askPrinter_31 ?_
        refine lv_iconst (v := 0) S.1 S.2.1 dX_askPrinter_34 (by decide) ?_
        refine p_X_P_flag S hN hK hP hD hS rfl rfl dX_askPrinter_35 (fun H locs hP hD hS => ?_)
        refine lv_aload_n S.1 S.2.1 dX_askPrinter_38 rfl (lv_at hl 0 rfl) ?_
        refine lv_iconst (v := 4) S.1 S.2.1 dX_askPrinter_39 (by decide) ?_
        refine cl_i (As := [.int 4]) (rest := []) S hN hK hP hD hS hA hl.1 (c_X_irHas l D a _ pc ac lk mq ma mb ir sw io dl ha rd sn md kf kb cn 0 co ou 4) k_X_233 (rc_X hK hP) ⟨by decide, by decide⟩ rfl rfl (Nat.le_of_ble_eq_true rfl) ⟨Nat.le_refl _, Nat.le_refl _⟩ dX_askPrinter_40 (fun r u H locs hw hP hD hS => ?_)
        obtain ⟨g26, rfl, rfl⟩ | ⟨g27, rfl, rfl⟩ := hw
        · refine lv_if_eq (tgt := 51) S.1 S.2.1 dX_askPrinter_43 (by decide) (fun _ => ?_) (fun g28 => absurd (by decide) g28)
          refine lv_iconst (v := 0) S.1 S.2.1 dX_askPrinter_51 (by decide) ?_
          exact rt_i S hr hk hK hP hD hS ((by simp [mu36, g2, g17, g19, g26])) dX_askPrinter_52
        · refine lv_if_eq (tgt := 51) S.1 S.2.1 dX_askPrinter_43 (by decide) (fun g29 => absurd g29 (by decide)) (fun _ => ?_)
          refine lv_bipush (v := 37) S.1 S.2.1 dX_askPrinter_46 (by decide) ?_
          refine lv_goto (tgt := 52) S.1 S.2.1 dX_askPrinter_48 (by decide) ?_
          exact rt_i S hr hk hK hP hD hS ((by simp [mu36, g2, g17, g19, g27])) dX_askPrinter_52
    · refine lv_aload_n S.1 S.2.1 dX_askPrinter_18 rfl (lv_at hl 0 rfl) ?_
      refine cl_v (As := []) (rest := []) S hN hK hP hD hS hA hl.1 (c_X_advancePc l D a _ pc ac lk mq ma mb ir sw io dl ha rd sn md kf kb cn pf co ou ) k_X_230 (rc_X hK hP) ⟨by decide, by decide⟩ rfl rfl (Nat.le_of_ble_eq_true rfl) ⟨Nat.le_refl _, Nat.le_refl _⟩ dX_askPrinter_19 (fun u H locs hw hP hD hS => ?_)
      obtain rfl := hw
      refine lv_aload_n S.1 S.2.1 dX_askPrinter_22 rfl (lv_at hl 0 rfl) ?_
      refine lv_iconst (v := 2) S.1 S.2.1 dX_askPrinter_23 (by decide) ?_
      refine cl_i (As := [.int 2]) (rest := []) S hN hK hP hD hS hA hl.1 (c_X_irHas l D a _ ((pc + 1) &&& 4095) ac lk mq ma mb ir sw io dl ha rd sn md kf kb cn pf co ou 2) k_X_233 (rc_X hK hP) ⟨by decide, by decide⟩ rfl rfl (Nat.le_of_ble_eq_true rfl) ⟨Nat.le_refl _, Nat.le_refl _⟩ dX_askPrinter_24 (fun r u H locs hw hP hD hS => ?_)
      obtain ⟨g30, rfl, rfl⟩ | ⟨g31, rfl, rfl⟩ := hw
      · refine lv_if_eq (tgt := 38) S.1 S.2.1 dX_askPrinter_27 (by decide) (fun _ => ?_) (fun g32 => absurd (by decide) g32)
        refine lv_aload_n S.1 S.2.1 dX_askPrinter_38 rfl (lv_at hl 0 rfl) ?_
        refine lv_iconst (v := 4) S.1 S.2.1 dX_askPrinter_39 (by decide) ?_
        refine cl_i (As := [.int 4]) (rest := []) S hN hK hP hD hS hA hl.1 (c_X_irHas l D a _ ((pc + 1) &&& 4095) ac lk mq ma mb ir sw io dl ha rd sn md kf kb cn pf co ou 4) k_X_233 (rc_X hK hP) ⟨by decide, by decide⟩ rfl rfl (Nat.le_of_ble_eq_true rfl) ⟨Nat.le_refl _, Nat.le_refl _⟩ dX_askPrinter_40 (fun r u H locs hw hP hD hS => ?_)
        obtain ⟨g33, rfl, rfl⟩ | ⟨g34, rfl, rfl⟩ := hw
        · refine lv_if_eq (tgt := 51) S.1 S.2.1 dX_askPrinter_43 (by decide) (fun _ => ?_) (fun g35 => absurd (by decide) g35)
          refine lv_iconst (v := 0) S.1 S.2.1 dX_askPrinter_51 (by decide) ?_
          exact rt_i S hr hk hK hP hD hS ((by simp [mu36, g2, g17, g30, g33])) dX_askPrinter_52
        · refine lv_if_eq (tgt := 51) S.1 S.2.1 dX_askPrinter_43 (by decide) (fun g36 => absurd g36 (by decide)) (fun _ => ?_)
          refine lv_bipush (v := 37) S.1 S.2.1 dX_askPrinter_46 (by decide) ?_
          refine lv_goto (tgt := 52) S.1 S.2.1 dX_askPrinter_48 (by decide) ?_
          exact rt_i S hr hk hK hP hD hS ((by simp [mu36, g2, g17, g30, g34])) dX_askPrinter_52
      · refine lv_if_eq (tgt := 38) S.1 S.2.1 dX_askPrinter_27 (by decide) (fun g37 => absurd g37 (by decide)) (fun _ => ?_)
        refine lv_aload_n S.1 S.2.1 dX_askPrinter_30 rfl (lv_at hl 0 rfl) ?_
        refine g_X_X_printer S hK hP dX_askPrinter_31 ?_
        refine lv_iconst (v := 0) S.1 S.2.1 dX_askPrinter_34 (by decide) ?_
        refine p_X_P_flag S hN hK hP hD hS rfl rfl dX_askPrinter_35 (fun H locs hP hD hS => ?_)
        refine lv_aload_n S.1 S.2.1 dX_askPrinter_38 rfl (lv_at hl 0 rfl) ?_
        refine lv_iconst (v := 4) S.1 S.2.1 dX_askPrinter_39 (by decide) ?_
        refine cl_i (As := [.int 4]) (rest := []) S hN hK hP hD hS hA hl.1 (c_X_irHas l D a _ ((pc + 1) &&& 4095) ac lk mq ma mb ir sw io dl ha rd sn md kf kb cn 0 co ou 4) k_X_233 (rc_X hK hP) ⟨by decide, by decide⟩ rfl rfl (Nat.le_of_ble_eq_true rfl) ⟨Nat.le_refl _, Nat.le_refl _⟩ dX_askPrinter_40 (fun r u H locs hw hP hD hS => ?_)
        obtain ⟨g38, rfl, rfl⟩ | ⟨g39, rfl, rfl⟩ := hw
        · refine lv_if_eq (tgt := 51) S.1 S.2.1 dX_askPrinter_43 (by decide) (fun _ => ?_) (fun g40 => absurd (by decide) g40)
          refine lv_iconst (v := 0) S.1 S.2.1 dX_askPrinter_51 (by decide) ?_
          exact rt_i S hr hk hK hP hD hS ((by simp [mu36, g2, g17, g31, g38])) dX_askPrinter_52
        · refine lv_if_eq (tgt := 51) S.1 S.2.1 dX_askPrinter_43 (by decide) (fun g41 => absurd g41 (by decide)) (fun _ => ?_)
          refine lv_bipush (v := 37) S.1 S.2.1 dX_askPrinter_46 (by decide) ?_
          refine lv_goto (tgt := 52) S.1 S.2.1 dX_askPrinter_48 (by decide) ?_
          exact rt_i S hr hk hK hP hD hS ((by simp [mu36, g2, g17, g31, g39])) dX_askPrinter_52

set_option maxHeartbeats 4000000 in
set_option maxRecDepth 100000 in
theorem c_X_interrupt (l : Launch) (D : va_G) (a : AX) (sz : Nat) (pc ac lk mq ma mb ir sw io dl ha rd sn md kf kb cn pf : Int32) (co ou : Nat → Int32) : MI l D (wx a) (tx a) sz yX_interrupt cX_interrupt 1 (some .int) 0 [.ref a.1] (pc, ac, lk, mq, ma, mb, ir, sw, io, dl, ha, rd, sn, md, kf, kb, cn, pf, co, ou) (fun r u => (r, u) = mu40 (pc, ac, lk, mq, ma, mb, ir, sw, io, dl, ha, rd, sn, md, kf, kb, cn, pf, co, ou)) := by
  refine en_i RX rfl (by decide) (Nat.le_of_ble_eq_true rfl) ?_
  intro p e s m below meth c A ls S hr hk hA hN hK hP hD hS hl
  have hl : lv_has ls 1 [(0, .ref a.1)] := hl
  refine lv_aload_n S.1 S.2.1 dX_interrupt_0 rfl (lv_at hl 0 rfl) ?_
  refine lv_aload_n S.1 S.2.1 dX_interrupt_1 rfl (lv_at hl 0 rfl) ?_
  refine g_X_X_pc S hK hP dX_interrupt_2 ?_
  refine p_X_X_mb S hK hP hD hS dX_interrupt_5 (fun H locs hP hD hS => ?_)
  refine lv_aload_n S.1 S.2.1 dX_interrupt_8 rfl (lv_at hl 0 rfl) ?_
  refine lv_iconst (v := 0) S.1 S.2.1 dX_interrupt_9 (by decide) ?_
  refine p_X_X_ma S hK hP hD hS dX_interrupt_10 (fun H locs hP hD hS => ?_)
  refine lv_aload_n S.1 S.2.1 dX_interrupt_13 rfl (lv_at hl 0 rfl) ?_
  refine lv_iconst (v := 0) S.1 S.2.1 dX_interrupt_14 (by decide) ?_
  refine p_X_X_ion S hK hP hD hS rfl rfl dX_interrupt_15 (fun H locs hP hD hS => ?_)
  refine lv_bipush (v := 41) S.1 S.2.1 dX_interrupt_18 (by decide) ?_
  exact rt_i S hr hk hK hP hD hS ((by simp [mu40])) dX_interrupt_20
