set_option maxRecDepth 20000 in
theorem wc_35 : Cond.constantLong RL 35 4294967295 ∈ wsA := (wm_3 (i := 46) rfl rfl)
theorem lw_in {L j : Nat} (hL : L ≤ 2561) (hj : 5 * j ≤ 2600) (h : ¬ (nI L - 5) < (nI (1 + 5 * j))) : 6 + 5 * j ≤ L := by
  have e : (5 : Int32) = nI 5 := by decide +kernel
  rw [e, Int32.lt_iff_toInt_lt, pk_sub_toInt (by omega) (by omega), nI_toInt (by omega)] at h
  omega
theorem lw_ix {L j c : Nat} {d : Int32} (hL : L ≤ 2561) (h : 6 + 5 * j ≤ L) (hc : c ≤ 4) (hd : d = nI c) : vp_in ((nI (1 + 5 * j)) + d) L := by
  rw [hd, nI_add]
  exact vp_in_nI (by omega) (by omega)
theorem lw_i0 {L j : Nat} (hL : L ≤ 2561) (h : 6 + 5 * j ≤ L) : vp_in (nI (1 + 5 * j)) L := vp_in_nI (by omega) (by omega)
theorem lw_5 (j : Nat) : (nI (1 + 5 * j)) + Int32.ofInt 5 = nI (1 + 5 * (j + 1)) := by
  have e : Int32.ofInt 5 = nI 5 := by decide +kernel
  rw [e, nI_add]
  congr 1
theorem lw_x {L j : Nat} (hL : L ≤ 2561) (hj : 5 * j ≤ 2600) (h : L ≤ 5 * j) : (nI L - 5) < (nI (1 + 5 * j)) := by
  have e : (5 : Int32) = nI 5 := by decide +kernel
  rw [e, Int32.lt_iff_toInt_lt, pk_sub_toInt (by omega) (by omega), nI_toInt (by omega)]
  omega

set_option maxHeartbeats 4000000 in
set_option maxRecDepth 100000 in
theorem lp_law {p : Program} {l : Launch} {e : Env} {s : State} {m : MethodId} {below : List Frame} {meth : Method} {c : Code} {b L : Nat} {xs : Nat → Int32} {A : Nat → Prop} {D : va_G} {a : AX} {rr : AR} (S : CallFix p m c cL_law 4 s #[Value.ref b] wsA RL) (hr : meth.sig.returnType = ret) (hlk : meth.locks = false) (hN : nw s) (hKx : va_K D vwCl (tx a) s) (hKr : va_K D vwCl (tr rr) s) (hcap : a.2.2.2.2.2.2.2 = rr.2.2.2.2.2) (hX : va_X b L xs s s.heap) (hbl : b < s.heap.size) (hbA : ¬ A b) (hA : ∀ q, s.heap.size ≤ q → A q) (hAf : ∀ q, A q → s.heap.size ≤ q) (hL : L ≤ 2561) : ∀ (k j : Nat) (u : St) (H : Heap) (locs : List Loc) (ls : Array Slot), L ≤ 5 * j + 5 * k → 5 * j ≤ 2600 → Iv a.2.2.2.2.2.2.2 u → lv_has ls 4 [(3, .int (nI (1 + 5 * j))), (2, .ref rr.1), (1, .ref a.1), (0, .ref b)] → va_P D vwCl (wx a u) H → va_P D vwCl (wr rr u) H → va_D A (wx a u ++ wr rr u) → va_S A s.heap H locs → W p l e room_1 s m #[Value.ref b] below meth c H locs 600000 7302250 (lw_Z below #[Value.ref b] s) (F0 m 28 ls []) := by
  intro k
  induction k with
  | zero =>
    intro j u H locs ls hk9 hj I hl hP hQ hD hS
    obtain ⟨pc, ac, lk, mq, ma, mb, ir, sw, io, dl, ha, rd, sn, md, kf, kb, cn, pf, co, ou⟩ := u
    have hx9 : (nI L - 5) < (nI (1 + 5 * j)) := lw_x hL hj (by omega)
    refine lv_iload_n S.1 S.2.1 dL_law_28 rfl (lv_at hl 0 rfl) ?_
    refine lv_aload_n S.1 S.2.1 dL_law_29 rfl (lv_at hl 3 rfl) ?_
    refine va_slen S.1 S.2.1 hX hbl hbA hS dL_law_30 ?_
    refine lv_iconst (v := 5) S.1 S.2.1 dL_law_31 (by decide) ?_
    refine lv_isub S.1 S.2.1 dL_law_32 ?_
    refine lv_icmp_gt (tgt := 410) S.1 S.2.1 dL_law_33 (by decide) (fun _ => ?_) (fun g1 => absurd hx9 g1)
    refine lv_iconst (v := 1) S.1 S.2.1 dL_law_410 (by decide) ?_
    exact va_forget (fun q h => hAf _ (hS.2.2 q h)) (lw_ret S.1 S.2.1 hr hlk dL_law_411)
  | succ k ih =>
    intro j u H locs ls hk9 hj I hl hP hQ hD hS
    obtain ⟨pc, ac, lk, mq, ma, mb, ir, sw, io, dl, ha, rd, sn, md, kf, kb, cn, pf, co, ou⟩ := u
    have J : Iv rr.2.2.2.2.2 (pc, ac, lk, mq, ma, mb, ir, sw, io, dl, ha, rd, sn, md, kf, kb, cn, pf, co, ou) := hcap ▸ I
    obtain ⟨-, -, -, hsn, -, -, hcn, hn100, -⟩ := id I
    obtain ⟨-, -, -, -, -, -, hcn2, hn102, -⟩ := id J
    refine lv_iload_n S.1 S.2.1 dL_law_28 rfl (lv_at hl 0 rfl) ?_
    refine lv_aload_n S.1 S.2.1 dL_law_29 rfl (lv_at hl 3 rfl) ?_
    refine va_slen S.1 S.2.1 hX hbl hbA hS dL_law_30 ?_
    refine lv_iconst (v := 5) S.1 S.2.1 dL_law_31 (by decide) ?_
    refine lv_isub S.1 S.2.1 dL_law_32 ?_
    refine lv_icmp_gt (tgt := 410) S.1 S.2.1 dL_law_33 (by decide) (fun g1 => ?_) (fun g1 => ?_)
    · refine lv_iconst (v := 1) S.1 S.2.1 dL_law_410 (by decide) ?_
      exact va_forget (fun q h => hAf _ (hS.2.2 q h)) (lw_ret S.1 S.2.1 hr hlk dL_law_411)
    · have h6 := lw_in hL hj g1
      refine lv_aload_n S.1 S.2.1 dL_law_36 rfl (lv_at hl 3 rfl) ?_
      refine lv_iload_n S.1 S.2.1 dL_law_37 rfl (lv_at hl 0 rfl) ?_
      refine va_sld S.1 S.2.1 hX hbl hbA hS (lw_i0 hL h6) dL_law_38 ?_
      refine lv_bipush (v := 15) S.1 S.2.1 dL_law_39 (by decide) ?_
      refine lv_iand S.1 S.2.1 dL_law_41 ?_
      by_cases g2 : ((xs (nI (1 + 5 * j)).toNatClampNeg) &&& 15) = 0
      · refine lv_tableIn (off := 62) (tgt := 104) S.1 S.2.1 dL_law_42 (by rw [g2]; decide +kernel) (by rw [g2]; decide +kernel) (by rw [g2]; decide +kernel) (by decide) ?_
        refine lv_aload_n S.1 S.2.1 dL_law_104 rfl (lv_at hl 2 rfl) ?_
        refine cl2_v (w := wx a) (As := []) (rest := []) S hN hKx hP hQ hD hS hA hl.1 (c_X_init l D a _ pc ac lk mq ma mb ir sw io dl ha rd sn md kf kb cn pf co ou  ) k_L_21 (rc_X hKx hP) ⟨by decide, by decide⟩ rfl rfl (Nat.le_of_ble_eq_true rfl) ⟨Nat.le_refl _, Nat.le_refl _⟩ dL_law_105 (fun u H locs hw hP hQ hD hS => ?_)
        obtain rfl := hw
        refine lv_aload_n S.1 S.2.1 dL_law_108 rfl (lv_at hl 1 rfl) ?_
        refine cl2_v (w := wr rr) (As := []) (rest := []) S hN hKr hQ hP (ds_ hD) hS hA hl.1 (c_M_init l D rr _ pc ac lk mq ma mb ir sw io dl ha rd sn md kf kb cn pf co ou  ) k_L_24 (rc_M hKr hQ) ⟨by decide, by decide⟩ rfl rfl (Nat.le_of_ble_eq_true rfl) ⟨Nat.le_refl _, Nat.le_refl _⟩ dL_law_109 (fun u H locs hw hQ hP hD hS => ?_)
        have hD := ds_ hD
        obtain rfl := hw
        refine lv_goto (tgt := 404) S.1 S.2.1 dL_law_112 (by decide) ?_
        refine lv_iinc (k := 0) (v := (nI (1 + 5 * (j + 1)))) S.1 S.2.1 dL_law_404 hl rfl (lw_5 j) (by decide) rfl (fun ls hl => ?_)
        have hl : lv_has ls 4 [(3, .int (nI (1 + 5 * (j + 1)))), (2, .ref rr.1), (1, .ref a.1), (0, .ref b)] := hl
        refine lv_goto (tgt := 28) S.1 S.2.1 dL_law_407 (by decide) ?_
        exact ih (j + 1) (0, 0, 0, 0, 0, 0, 0, sw, 0, 0, 0, 1, 0, 0, 0, 0, 0, 0, co, ou) H locs ls (by omega) (by omega) (iv_init I) hl hP hQ hD hS
      by_cases g3 : ((xs (nI (1 + 5 * j)).toNatClampNeg) &&& 15) = 1
      · refine lv_tableIn (off := 73) (tgt := 115) S.1 S.2.1 dL_law_42 (by rw [g3]; decide +kernel) (by rw [g3]; decide +kernel) (by rw [g3]; decide +kernel) (by decide) ?_
        refine lv_aload_n S.1 S.2.1 dL_law_115 rfl (lv_at hl 2 rfl) ?_
        refine lv_aload_n S.1 S.2.1 dL_law_116 rfl (lv_at hl 3 rfl) ?_
        refine lv_iload_n S.1 S.2.1 dL_law_117 rfl (lv_at hl 0 rfl) ?_
        refine lv_iconst (v := 1) S.1 S.2.1 dL_law_118 (by decide) ?_
        refine lv_iadd S.1 S.2.1 dL_law_119 ?_
        refine va_sld S.1 S.2.1 hX hbl hbA hS (lw_ix (c := 1) hL h6 (by decide) (by decide)) dL_law_120 ?_
        refine lv_aload_n S.1 S.2.1 dL_law_121 rfl (lv_at hl 3 rfl) ?_
        refine lv_iload_n S.1 S.2.1 dL_law_122 rfl (lv_at hl 0 rfl) ?_
        refine lv_iconst (v := 2) S.1 S.2.1 dL_law_123 (by decide) ?_
        refine lv_iadd S.1 S.2.1 dL_law_124 ?_
        refine va_sld S.1 S.2.1 hX hbl hbA hS (lw_ix (c := 2) hL h6 (by decide) (by decide)) dL_law_125 ?_
        refine cl2_i (w := wx a) (As := [.int (xs ((nI (1 + 5 * j)) + 1).toNatClampNeg), .int (xs ((nI (1 + 5 * j)) + 2).toNatClampNeg)]) (rest := []) S hN hKx hP hQ hD hS hA hl.1 (c_X_deposit l D a _ pc ac lk mq ma mb ir sw io dl ha rd sn md kf kb cn pf co ou (xs ((nI (1 + 5 * j)) + 1).toNatClampNeg) (xs ((nI (1 + 5 * j)) + 2).toNatClampNeg) ) k_L_25 (rc_X hKx hP) ⟨by decide, by decide⟩ rfl rfl (Nat.le_of_ble_eq_true rfl) ⟨Nat.le_refl _, Nat.le_refl _⟩ dL_law_126 (fun r u H locs hw hP hQ hD hS => ?_)
        obtain ⟨g4, rfl, rfl⟩ | ⟨g5, g6, rfl, rfl⟩ | ⟨g7, g8, rfl, rfl⟩ := hw
        · refine lv_aload_n S.1 S.2.1 dL_law_129 rfl (lv_at hl 1 rfl) ?_
          refine lv_aload_n S.1 S.2.1 dL_law_130 rfl (lv_at hl 3 rfl) ?_
          refine lv_iload_n S.1 S.2.1 dL_law_131 rfl (lv_at hl 0 rfl) ?_
          refine lv_iconst (v := 1) S.1 S.2.1 dL_law_132 (by decide) ?_
          refine lv_iadd S.1 S.2.1 dL_law_133 ?_
          refine va_sld S.1 S.2.1 hX hbl hbA hS (lw_ix (c := 1) hL h6 (by decide) (by decide)) dL_law_134 ?_
          refine lv_aload_n S.1 S.2.1 dL_law_135 rfl (lv_at hl 3 rfl) ?_
          refine lv_iload_n S.1 S.2.1 dL_law_136 rfl (lv_at hl 0 rfl) ?_
          refine lv_iconst (v := 2) S.1 S.2.1 dL_law_137 (by decide) ?_
          refine lv_iadd S.1 S.2.1 dL_law_138 ?_
          refine va_sld S.1 S.2.1 hX hbl hbA hS (lw_ix (c := 2) hL h6 (by decide) (by decide)) dL_law_139 ?_
          refine cl2_i (w := wr rr) (As := [.int (xs ((nI (1 + 5 * j)) + 1).toNatClampNeg), .int (xs ((nI (1 + 5 * j)) + 2).toNatClampNeg)]) (rest := [.int 0]) S hN hKr hQ hP (ds_ hD) hS hA hl.1 (c_M_deposit l D rr _ pc ac lk mq ma mb ir sw io dl ha rd sn md kf kb cn pf co ou (xs ((nI (1 + 5 * j)) + 1).toNatClampNeg) (xs ((nI (1 + 5 * j)) + 2).toNatClampNeg) ) k_L_29 (rc_M hKr hQ) ⟨by decide, by decide⟩ rfl rfl (Nat.le_of_ble_eq_true rfl) ⟨Nat.le_refl _, Nat.le_refl _⟩ dL_law_140 (fun r u H locs hw hQ hP hD hS => ?_)
          have hD := ds_ hD
          obtain ⟨g9, rfl, rfl⟩ | ⟨g10, g11, rfl, rfl⟩ | ⟨g12, g13, rfl, rfl⟩ := hw
          · refine lv_icmp_eq (tgt := 404) S.1 S.2.1 dL_law_143 (by decide) (fun _ => ?_) (fun g14 => absurd (by decide) g14)
            refine lv_iinc (k := 0) (v := (nI (1 + 5 * (j + 1)))) S.1 S.2.1 dL_law_404 hl rfl (lw_5 j) (by decide) rfl (fun ls hl => ?_)
            have hl : lv_has ls 4 [(3, .int (nI (1 + 5 * (j + 1)))), (2, .ref rr.1), (1, .ref a.1), (0, .ref b)] := hl
            refine lv_goto (tgt := 28) S.1 S.2.1 dL_law_407 (by decide) ?_
            exact ih (j + 1) (pc, ac, lk, mq, ma, mb, ir, sw, io, dl, ha, rd, sn, md, kf, kb, cn, pf, co, ou) H locs ls (by omega) (by omega) I hl hP hQ hD hS
          · exact absurd g4 g10
          · exact absurd g4 g12
        · refine lv_aload_n S.1 S.2.1 dL_law_129 rfl (lv_at hl 1 rfl) ?_
          refine lv_aload_n S.1 S.2.1 dL_law_130 rfl (lv_at hl 3 rfl) ?_
          refine lv_iload_n S.1 S.2.1 dL_law_131 rfl (lv_at hl 0 rfl) ?_
          refine lv_iconst (v := 1) S.1 S.2.1 dL_law_132 (by decide) ?_
          refine lv_iadd S.1 S.2.1 dL_law_133 ?_
          refine va_sld S.1 S.2.1 hX hbl hbA hS (lw_ix (c := 1) hL h6 (by decide) (by decide)) dL_law_134 ?_
          refine lv_aload_n S.1 S.2.1 dL_law_135 rfl (lv_at hl 3 rfl) ?_
          refine lv_iload_n S.1 S.2.1 dL_law_136 rfl (lv_at hl 0 rfl) ?_
          refine lv_iconst (v := 2) S.1 S.2.1 dL_law_137 (by decide) ?_
          refine lv_iadd S.1 S.2.1 dL_law_138 ?_
          refine va_sld S.1 S.2.1 hX hbl hbA hS (lw_ix (c := 2) hL h6 (by decide) (by decide)) dL_law_139 ?_
          refine cl2_i (w := wr rr) (As := [.int (xs ((nI (1 + 5 * j)) + 1).toNatClampNeg), .int (xs ((nI (1 + 5 * j)) + 2).toNatClampNeg)]) (rest := [.int 0]) S hN hKr hQ hP (ds_ hD) hS hA hl.1 (c_M_deposit l D rr _ pc ac lk mq ma mb ir sw io dl ha rd sn md kf kb cn pf co ou (xs ((nI (1 + 5 * j)) + 1).toNatClampNeg) (xs ((nI (1 + 5 * j)) + 2).toNatClampNeg) ) k_L_29 (rc_M hKr hQ) ⟨by decide, by decide⟩ rfl rfl (Nat.le_of_ble_eq_true rfl) ⟨Nat.le_refl _, Nat.le_refl _⟩ dL_law_140 (fun r u H locs hw hQ hP hD hS => ?_)
          have hD := ds_ hD
          obtain ⟨g15, rfl, rfl⟩ | ⟨g16, g17, rfl, rfl⟩ | ⟨g18, g19, rfl, rfl⟩ := hw
          · exact absurd g15 g5
          · refine lv_icmp_eq (tgt := 404) S.1 S.2.1 dL_law_143 (by decide) (fun _ => ?_) (fun g20 => absurd (by decide) g20)
            refine lv_iinc (k := 0) (v := (nI (1 + 5 * (j + 1)))) S.1 S.2.1 dL_law_404 hl rfl (lw_5 j) (by decide) rfl (fun ls hl => ?_)
            have hl : lv_has ls 4 [(3, .int (nI (1 + 5 * (j + 1)))), (2, .ref rr.1), (1, .ref a.1), (0, .ref b)] := hl
            refine lv_goto (tgt := 28) S.1 S.2.1 dL_law_407 (by decide) ?_
            exact ih (j + 1) (pc, ac, lk, mq, ma, mb, ir, sw, io, dl, ha, rd, sn, md, kf, kb, cn, pf, co, ou) H locs ls (by omega) (by omega) I hl hP hQ hD hS
          · exact absurd g6 g19
        · refine lv_aload_n S.1 S.2.1 dL_law_129 rfl (lv_at hl 1 rfl) ?_
          refine lv_aload_n S.1 S.2.1 dL_law_130 rfl (lv_at hl 3 rfl) ?_
          refine lv_iload_n S.1 S.2.1 dL_law_131 rfl (lv_at hl 0 rfl) ?_
          refine lv_iconst (v := 1) S.1 S.2.1 dL_law_132 (by decide) ?_
          refine lv_iadd S.1 S.2.1 dL_law_133 ?_
          refine va_sld S.1 S.2.1 hX hbl hbA hS (lw_ix (c := 1) hL h6 (by decide) (by decide)) dL_law_134 ?_
          refine lv_aload_n S.1 S.2.1 dL_law_135 rfl (lv_at hl 3 rfl) ?_
          refine lv_iload_n S.1 S.2.1 dL_law_136 rfl (lv_at hl 0 rfl) ?_
          refine lv_iconst (v := 2) S.1 S.2.1 dL_law_137 (by decide) ?_
          refine lv_iadd S.1 S.2.1 dL_law_138 ?_
          refine va_sld S.1 S.2.1 hX hbl hbA hS (lw_ix (c := 2) hL h6 (by decide) (by decide)) dL_law_139 ?_
          refine cl2_i (w := wr rr) (As := [.int (xs ((nI (1 + 5 * j)) + 1).toNatClampNeg), .int (xs ((nI (1 + 5 * j)) + 2).toNatClampNeg)]) (rest := [.int 1]) S hN hKr hQ hP (ds_ hD) hS hA hl.1 (c_M_deposit l D rr _ pc ac lk mq ma mb ir sw io dl ha rd sn md kf kb cn pf co ou (xs ((nI (1 + 5 * j)) + 1).toNatClampNeg) (xs ((nI (1 + 5 * j)) + 2).toNatClampNeg) ) k_L_29 (rc_M hKr hQ) ⟨by decide, by decide⟩ rfl rfl (Nat.le_of_ble_eq_true rfl) ⟨Nat.le_refl _, Nat.le_refl _⟩ dL_law_140 (fun r u H locs hw hQ hP hD hS => ?_)
          have hD := ds_ hD
          obtain ⟨g21, rfl, rfl⟩ | ⟨g22, g23, rfl, rfl⟩ | ⟨g24, g25, rfl, rfl⟩ := hw
          · exact absurd g21 g7
          · exact absurd g23 g8
          · refine lv_icmp_eq (tgt := 404) S.1 S.2.1 dL_law_143 (by decide) (fun _ => ?_) (fun g26 => absurd (by decide) g26)
            refine lv_iinc (k := 0) (v := (nI (1 + 5 * (j + 1)))) S.1 S.2.1 dL_law_404 hl rfl (lw_5 j) (by decide) rfl (fun ls hl => ?_)
            have hl : lv_has ls 4 [(3, .int (nI (1 + 5 * (j + 1)))), (2, .ref rr.1), (1, .ref a.1), (0, .ref b)] := hl
            refine lv_goto (tgt := 28) S.1 S.2.1 dL_law_407 (by decide) ?_
            exact ih (j + 1) (pc, ac, lk, mq, ma, mb, ir, sw, io, dl, ha, rd, sn, md, kf, kb, cn, pf, (upd co ((xs ((nI (1 + 5 * j)) + 1).toNatClampNeg) &&& 4095).toNatClampNeg ((xs ((nI (1 + 5 * j)) + 2).toNatClampNeg) &&& 4095)), ou) H locs ls (by omega) (by omega) (iv_dep I (xs ((nI (1 + 5 * j)) + 1).toNatClampNeg) (xs ((nI (1 + 5 * j)) + 2).toNatClampNeg)) hl hP hQ hD hS
      by_cases g27 : ((xs (nI (1 + 5 * j)).toNatClampNeg) &&& 15) = 2
      · refine lv_tableIn (off := 106) (tgt := 148) S.1 S.2.1 dL_law_42 (by rw [g27]; decide +kernel) (by rw [g27]; decide +kernel) (by rw [g27]; decide +kernel) (by decide) ?_
        refine lv_aload_n S.1 S.2.1 dL_law_148 rfl (lv_at hl 2 rfl) ?_
        refine lv_aload_n S.1 S.2.1 dL_law_149 rfl (lv_at hl 3 rfl) ?_
        refine lv_iload_n S.1 S.2.1 dL_law_150 rfl (lv_at hl 0 rfl) ?_
        refine lv_iconst (v := 1) S.1 S.2.1 dL_law_151 (by decide) ?_
        refine lv_iadd S.1 S.2.1 dL_law_152 ?_
        refine va_sld S.1 S.2.1 hX hbl hbA hS (lw_ix (c := 1) hL h6 (by decide) (by decide)) dL_law_153 ?_
        refine cl2_i (w := wx a) (As := [.int (xs ((nI (1 + 5 * j)) + 1).toNatClampNeg)]) (rest := []) S hN hKx hP hQ hD hS hA hl.1 (c_X_examine l D a _ pc ac lk mq ma mb ir sw io dl ha rd sn md kf kb cn pf co ou (xs ((nI (1 + 5 * j)) + 1).toNatClampNeg) ) k_L_30 (rc_X hKx hP) ⟨by decide, by decide⟩ rfl rfl (Nat.le_of_ble_eq_true rfl) ⟨Nat.le_refl _, Nat.le_refl _⟩ dL_law_154 (fun r u H locs hw hP hQ hD hS => ?_)
        obtain ⟨g28, rfl, rfl⟩ | ⟨g29, g30, rfl, rfl⟩ | ⟨g31, g32, rfl, rfl⟩ := hw
        · refine lv_aload_n S.1 S.2.1 dL_law_157 rfl (lv_at hl 1 rfl) ?_
          refine lv_aload_n S.1 S.2.1 dL_law_158 rfl (lv_at hl 3 rfl) ?_
          refine lv_iload_n S.1 S.2.1 dL_law_159 rfl (lv_at hl 0 rfl) ?_
          refine lv_iconst (v := 1) S.1 S.2.1 dL_law_160 (by decide) ?_
          refine lv_iadd S.1 S.2.1 dL_law_161 ?_
          refine va_sld S.1 S.2.1 hX hbl hbA hS (lw_ix (c := 1) hL h6 (by decide) (by decide)) dL_law_162 ?_
          refine cl2_i (w := wr rr) (As := [.int (xs ((nI (1 + 5 * j)) + 1).toNatClampNeg)]) (rest := [.int (-1)]) S hN hKr hQ hP (ds_ hD) hS hA hl.1 (c_M_examine l D rr _ pc ac lk mq ma mb ir sw io dl ha rd sn md kf kb cn pf co ou (xs ((nI (1 + 5 * j)) + 1).toNatClampNeg) ) k_L_34 (rc_M hKr hQ) ⟨by decide, by decide⟩ rfl rfl (Nat.le_of_ble_eq_true rfl) ⟨Nat.le_refl _, Nat.le_refl _⟩ dL_law_163 (fun r u H locs hw hQ hP hD hS => ?_)
          have hD := ds_ hD
          obtain ⟨g33, rfl, rfl⟩ | ⟨g34, g35, rfl, rfl⟩ | ⟨g36, g37, rfl, rfl⟩ := hw
          · refine lv_icmp_eq (tgt := 404) S.1 S.2.1 dL_law_166 (by decide) (fun _ => ?_) (fun g38 => absurd (by decide) g38)
            refine lv_iinc (k := 0) (v := (nI (1 + 5 * (j + 1)))) S.1 S.2.1 dL_law_404 hl rfl (lw_5 j) (by decide) rfl (fun ls hl => ?_)
            have hl : lv_has ls 4 [(3, .int (nI (1 + 5 * (j + 1)))), (2, .ref rr.1), (1, .ref a.1), (0, .ref b)] := hl
            refine lv_goto (tgt := 28) S.1 S.2.1 dL_law_407 (by decide) ?_
            exact ih (j + 1) (pc, ac, lk, mq, ma, mb, ir, sw, io, dl, ha, rd, sn, md, kf, kb, cn, pf, co, ou) H locs ls (by omega) (by omega) I hl hP hQ hD hS
          · exact absurd g28 g34
          · exact absurd g28 g36
        · refine lv_aload_n S.1 S.2.1 dL_law_157 rfl (lv_at hl 1 rfl) ?_
          refine lv_aload_n S.1 S.2.1 dL_law_158 rfl (lv_at hl 3 rfl) ?_
          refine lv_iload_n S.1 S.2.1 dL_law_159 rfl (lv_at hl 0 rfl) ?_
          refine lv_iconst (v := 1) S.1 S.2.1 dL_law_160 (by decide) ?_
          refine lv_iadd S.1 S.2.1 dL_law_161 ?_
          refine va_sld S.1 S.2.1 hX hbl hbA hS (lw_ix (c := 1) hL h6 (by decide) (by decide)) dL_law_162 ?_
          refine cl2_i (w := wr rr) (As := [.int (xs ((nI (1 + 5 * j)) + 1).toNatClampNeg)]) (rest := [.int (-1)]) S hN hKr hQ hP (ds_ hD) hS hA hl.1 (c_M_examine l D rr _ pc ac lk mq ma mb ir sw io dl ha rd sn md kf kb cn pf co ou (xs ((nI (1 + 5 * j)) + 1).toNatClampNeg) ) k_L_34 (rc_M hKr hQ) ⟨by decide, by decide⟩ rfl rfl (Nat.le_of_ble_eq_true rfl) ⟨Nat.le_refl _, Nat.le_refl _⟩ dL_law_163 (fun r u H locs hw hQ hP hD hS => ?_)
          have hD := ds_ hD
          obtain ⟨g39, rfl, rfl⟩ | ⟨g40, g41, rfl, rfl⟩ | ⟨g42, g43, rfl, rfl⟩ := hw
          · exact absurd g39 g29
          · refine lv_icmp_eq (tgt := 404) S.1 S.2.1 dL_law_166 (by decide) (fun _ => ?_) (fun g44 => absurd (by decide) g44)
            refine lv_iinc (k := 0) (v := (nI (1 + 5 * (j + 1)))) S.1 S.2.1 dL_law_404 hl rfl (lw_5 j) (by decide) rfl (fun ls hl => ?_)
            have hl : lv_has ls 4 [(3, .int (nI (1 + 5 * (j + 1)))), (2, .ref rr.1), (1, .ref a.1), (0, .ref b)] := hl
            refine lv_goto (tgt := 28) S.1 S.2.1 dL_law_407 (by decide) ?_
            exact ih (j + 1) (pc, ac, lk, mq, ma, mb, ir, sw, io, dl, ha, rd, sn, md, kf, kb, cn, pf, co, ou) H locs ls (by omega) (by omega) I hl hP hQ hD hS
          · exact absurd g30 g43
        · refine lv_aload_n S.1 S.2.1 dL_law_157 rfl (lv_at hl 1 rfl) ?_
          refine lv_aload_n S.1 S.2.1 dL_law_158 rfl (lv_at hl 3 rfl) ?_
          refine lv_iload_n S.1 S.2.1 dL_law_159 rfl (lv_at hl 0 rfl) ?_
          refine lv_iconst (v := 1) S.1 S.2.1 dL_law_160 (by decide) ?_
          refine lv_iadd S.1 S.2.1 dL_law_161 ?_
          refine va_sld S.1 S.2.1 hX hbl hbA hS (lw_ix (c := 1) hL h6 (by decide) (by decide)) dL_law_162 ?_
          refine cl2_i (w := wr rr) (As := [.int (xs ((nI (1 + 5 * j)) + 1).toNatClampNeg)]) (rest := [.int (co ((xs ((nI (1 + 5 * j)) + 1).toNatClampNeg) &&& 4095).toNatClampNeg)]) S hN hKr hQ hP (ds_ hD) hS hA hl.1 (c_M_examine l D rr _ pc ac lk mq ma mb ir sw io dl ha rd sn md kf kb cn pf co ou (xs ((nI (1 + 5 * j)) + 1).toNatClampNeg) ) k_L_34 (rc_M hKr hQ) ⟨by decide, by decide⟩ rfl rfl (Nat.le_of_ble_eq_true rfl) ⟨Nat.le_refl _, Nat.le_refl _⟩ dL_law_163 (fun r u H locs hw hQ hP hD hS => ?_)
          have hD := ds_ hD
          obtain ⟨g45, rfl, rfl⟩ | ⟨g46, g47, rfl, rfl⟩ | ⟨g48, g49, rfl, rfl⟩ := hw
          · exact absurd g45 g31
          · exact absurd g47 g32
          · refine lv_icmp_eq (tgt := 404) S.1 S.2.1 dL_law_166 (by decide) (fun _ => ?_) (fun g50 => absurd rfl g50)
            refine lv_iinc (k := 0) (v := (nI (1 + 5 * (j + 1)))) S.1 S.2.1 dL_law_404 hl rfl (lw_5 j) (by decide) rfl (fun ls hl => ?_)
            have hl : lv_has ls 4 [(3, .int (nI (1 + 5 * (j + 1)))), (2, .ref rr.1), (1, .ref a.1), (0, .ref b)] := hl
            refine lv_goto (tgt := 28) S.1 S.2.1 dL_law_407 (by decide) ?_
            exact ih (j + 1) (pc, ac, lk, mq, ma, mb, ir, sw, io, dl, ha, rd, sn, md, kf, kb, cn, pf, co, ou) H locs ls (by omega) (by omega) I hl hP hQ hD hS
      by_cases g51 : ((xs (nI (1 + 5 * j)).toNatClampNeg) &&& 15) = 3
      · refine lv_tableIn (off := 129) (tgt := 171) S.1 S.2.1 dL_law_42 (by rw [g51]; decide +kernel) (by rw [g51]; decide +kernel) (by rw [g51]; decide +kernel) (by decide) ?_
        refine lv_aload_n S.1 S.2.1 dL_law_171 rfl (lv_at hl 2 rfl) ?_
        refine lv_aload_n S.1 S.2.1 dL_law_172 rfl (lv_at hl 3 rfl) ?_
        refine lv_iload_n S.1 S.2.1 dL_law_173 rfl (lv_at hl 0 rfl) ?_
        refine lv_iconst (v := 1) S.1 S.2.1 dL_law_174 (by decide) ?_
        refine lv_iadd S.1 S.2.1 dL_law_175 ?_
        refine va_sld S.1 S.2.1 hX hbl hbA hS (lw_ix (c := 1) hL h6 (by decide) (by decide)) dL_law_176 ?_
        refine lv_aload_n S.1 S.2.1 dL_law_177 rfl (lv_at hl 3 rfl) ?_
        refine lv_iload_n S.1 S.2.1 dL_law_178 rfl (lv_at hl 0 rfl) ?_
        refine lv_iconst (v := 2) S.1 S.2.1 dL_law_179 (by decide) ?_
        refine lv_iadd S.1 S.2.1 dL_law_180 ?_
        refine va_sld S.1 S.2.1 hX hbl hbA hS (lw_ix (c := 2) hL h6 (by decide) (by decide)) dL_law_181 ?_
        refine lv_aload_n S.1 S.2.1 dL_law_182 rfl (lv_at hl 3 rfl) ?_
        refine lv_iload_n S.1 S.2.1 dL_law_183 rfl (lv_at hl 0 rfl) ?_
        refine lv_iconst (v := 3) S.1 S.2.1 dL_law_184 (by decide) ?_
        refine lv_iadd S.1 S.2.1 dL_law_185 ?_
        refine va_sld S.1 S.2.1 hX hbl hbA hS (lw_ix (c := 3) hL h6 (by decide) (by decide)) dL_law_186 ?_
        refine lv_i2l S.1 S.2.1 dL_law_187 rfl ?_
        refine lv_bipush (v := 32) S.1 S.2.1 dL_law_188 (by decide) ?_
        refine lv_lshl S.1 S.2.1 dL_law_190 rfl ?_
        refine lv_aload_n S.1 S.2.1 dL_law_191 rfl (lv_at hl 3 rfl) ?_
        refine lv_iload_n S.1 S.2.1 dL_law_192 rfl (lv_at hl 0 rfl) ?_
        refine lv_iconst (v := 4) S.1 S.2.1 dL_law_193 (by decide) ?_
        refine lv_iadd S.1 S.2.1 dL_law_194 ?_
        refine va_sld S.1 S.2.1 hX hbl hbA hS (lw_ix (c := 4) hL h6 (by decide) (by decide)) dL_law_195 ?_
        refine lv_i2l S.1 S.2.1 dL_law_196 rfl ?_
        refine lv_ldc2 (v := 4294967295) S.1 S.2.1 S.2.2.2.1 (S.2.2.2.2 _ wc_35) dL_law_197 ?_
        refine lv_land S.1 S.2.1 dL_law_200 ?_
        refine lv_lor S.1 S.2.1 dL_law_201 ?_
        refine cl2_i (w := wx a) (As := [.int (xs ((nI (1 + 5 * j)) + 1).toNatClampNeg), .int (xs ((nI (1 + 5 * j)) + 2).toNatClampNeg), .long (((xs ((nI (1 + 5 * j)) + 3).toNatClampNeg).toInt64 <<< ((32 : Int32).toInt64 &&& 63)) ||| ((xs ((nI (1 + 5 * j)) + 4).toNatClampNeg).toInt64 &&& 4294967295))]) (rest := []) S hN hKx hP hQ hD hS hA hl.1 (c_X_load l D a _ pc ac lk mq ma mb ir sw io dl ha rd sn md kf kb cn pf co ou (xs ((nI (1 + 5 * j)) + 1).toNatClampNeg) (xs ((nI (1 + 5 * j)) + 2).toNatClampNeg) (((xs ((nI (1 + 5 * j)) + 3).toNatClampNeg).toInt64 <<< ((32 : Int32).toInt64 &&& 63)) ||| ((xs ((nI (1 + 5 * j)) + 4).toNatClampNeg).toInt64 &&& 4294967295)) ) k_L_37 (rc_X hKx hP) ⟨by decide, by decide⟩ rfl rfl (Nat.le_of_ble_eq_true rfl) ⟨Nat.le_refl _, Nat.le_refl _⟩ dL_law_202 (fun r1 u1 H locs hw1 hP hQ hD hS => ?_)
        refine lv_aload_n S.1 S.2.1 dL_law_205 rfl (lv_at hl 1 rfl) ?_
        refine lv_aload_n S.1 S.2.1 dL_law_206 rfl (lv_at hl 3 rfl) ?_
        refine lv_iload_n S.1 S.2.1 dL_law_207 rfl (lv_at hl 0 rfl) ?_
        refine lv_iconst (v := 1) S.1 S.2.1 dL_law_208 (by decide) ?_
        refine lv_iadd S.1 S.2.1 dL_law_209 ?_
        refine va_sld S.1 S.2.1 hX hbl hbA hS (lw_ix (c := 1) hL h6 (by decide) (by decide)) dL_law_210 ?_
        refine lv_aload_n S.1 S.2.1 dL_law_211 rfl (lv_at hl 3 rfl) ?_
        refine lv_iload_n S.1 S.2.1 dL_law_212 rfl (lv_at hl 0 rfl) ?_
        refine lv_iconst (v := 2) S.1 S.2.1 dL_law_213 (by decide) ?_
        refine lv_iadd S.1 S.2.1 dL_law_214 ?_
        refine va_sld S.1 S.2.1 hX hbl hbA hS (lw_ix (c := 2) hL h6 (by decide) (by decide)) dL_law_215 ?_
        refine lv_aload_n S.1 S.2.1 dL_law_216 rfl (lv_at hl 3 rfl) ?_
        refine lv_iload_n S.1 S.2.1 dL_law_217 rfl (lv_at hl 0 rfl) ?_
        refine lv_iconst (v := 3) S.1 S.2.1 dL_law_218 (by decide) ?_
        refine lv_iadd S.1 S.2.1 dL_law_219 ?_
        refine va_sld S.1 S.2.1 hX hbl hbA hS (lw_ix (c := 3) hL h6 (by decide) (by decide)) dL_law_220 ?_
        refine lv_i2l S.1 S.2.1 dL_law_221 rfl ?_
        refine lv_bipush (v := 32) S.1 S.2.1 dL_law_222 (by decide) ?_
        refine lv_lshl S.1 S.2.1 dL_law_224 rfl ?_
        refine lv_aload_n S.1 S.2.1 dL_law_225 rfl (lv_at hl 3 rfl) ?_
        refine lv_iload_n S.1 S.2.1 dL_law_226 rfl (lv_at hl 0 rfl) ?_
        refine lv_iconst (v := 4) S.1 S.2.1 dL_law_227 (by decide) ?_
        refine lv_iadd S.1 S.2.1 dL_law_228 ?_
        refine va_sld S.1 S.2.1 hX hbl hbA hS (lw_ix (c := 4) hL h6 (by decide) (by decide)) dL_law_229 ?_
        refine lv_i2l S.1 S.2.1 dL_law_230 rfl ?_
        refine lv_ldc2 (v := 4294967295) S.1 S.2.1 S.2.2.2.1 (S.2.2.2.2 _ wc_35) dL_law_231 ?_
        refine lv_land S.1 S.2.1 dL_law_234 ?_
        refine lv_lor S.1 S.2.1 dL_law_235 ?_
        refine cl2_i (w := wr rr) (As := [.int (xs ((nI (1 + 5 * j)) + 1).toNatClampNeg), .int (xs ((nI (1 + 5 * j)) + 2).toNatClampNeg), .long (((xs ((nI (1 + 5 * j)) + 3).toNatClampNeg).toInt64 <<< ((32 : Int32).toInt64 &&& 63)) ||| ((xs ((nI (1 + 5 * j)) + 4).toNatClampNeg).toInt64 &&& 4294967295))]) (rest := [.int r1]) S hN hKr hQ hP (ds_ hD) hS hA hl.1 (c_M_load l D rr _ pc ac lk mq ma mb ir sw io dl ha rd sn md kf kb cn pf co ou (xs ((nI (1 + 5 * j)) + 1).toNatClampNeg) (xs ((nI (1 + 5 * j)) + 2).toNatClampNeg) (((xs ((nI (1 + 5 * j)) + 3).toNatClampNeg).toInt64 <<< ((32 : Int32).toInt64 &&& 63)) ||| ((xs ((nI (1 + 5 * j)) + 4).toNatClampNeg).toInt64 &&& 4294967295)) ) k_L_41 (rc_M hKr hQ) ⟨by decide, by decide⟩ rfl rfl (Nat.le_of_ble_eq_true rfl) ⟨Nat.le_refl _, Nat.le_refl _⟩ dL_law_236 (fun r2 u2 H locs hw2 hQ hP hD hS => ?_)
        have hD := ds_ hD
        have hq := hw2.trans hw1.symm
        have e1 : r2 = r1 := congrArg Prod.fst hq
        have e2 : u2 = u1 := congrArg Prod.snd hq
        rw [e2] at hQ hD
        refine lv_icmp_eq (tgt := 404) S.1 S.2.1 dL_law_239 (by decide) (fun _ => ?_) (fun g52 => absurd e1.symm g52)
        refine lv_iinc (k := 0) (v := (nI (1 + 5 * (j + 1)))) S.1 S.2.1 dL_law_404 hl rfl (lw_5 j) (by decide) rfl (fun ls hl => ?_)
        have hl : lv_has ls 4 [(3, .int (nI (1 + 5 * (j + 1)))), (2, .ref rr.1), (1, .ref a.1), (0, .ref b)] := hl
        refine lv_goto (tgt := 28) S.1 S.2.1 dL_law_407 (by decide) ?_
        exact ih (j + 1) u1 H locs ls (by omega) (by omega) (by have z : u1 = _ := congrArg Prod.snd hw1; rw [z]; exact iv_ldf I) hl hP hQ hD hS
      by_cases g53 : ((xs (nI (1 + 5 * j)).toNatClampNeg) &&& 15) = 4
      · refine lv_tableIn (off := 202) (tgt := 244) S.1 S.2.1 dL_law_42 (by rw [g53]; decide +kernel) (by rw [g53]; decide +kernel) (by rw [g53]; decide +kernel) (by decide) ?_
        refine lv_aload_n S.1 S.2.1 dL_law_244 rfl (lv_at hl 2 rfl) ?_
        refine lv_aload_n S.1 S.2.1 dL_law_245 rfl (lv_at hl 3 rfl) ?_
        refine lv_iload_n S.1 S.2.1 dL_law_246 rfl (lv_at hl 0 rfl) ?_
        refine lv_iconst (v := 1) S.1 S.2.1 dL_law_247 (by decide) ?_
        refine lv_iadd S.1 S.2.1 dL_law_248 ?_
        refine va_sld S.1 S.2.1 hX hbl hbA hS (lw_ix (c := 1) hL h6 (by decide) (by decide)) dL_law_249 ?_
        refine cl2_i (w := wx a) (As := [.int (xs ((nI (1 + 5 * j)) + 1).toNatClampNeg)]) (rest := []) S hN hKx hP hQ hD hS hA hl.1 (c_X_start l D a _ pc ac lk mq ma mb ir sw io dl ha rd sn md kf kb cn pf co ou (xs ((nI (1 + 5 * j)) + 1).toNatClampNeg) ) k_L_42 (rc_X hKx hP) ⟨by decide, by decide⟩ rfl rfl (Nat.le_of_ble_eq_true rfl) ⟨Nat.le_refl _, Nat.le_refl _⟩ dL_law_250 (fun r u H locs hw hP hQ hD hS => ?_)
        obtain ⟨g54, rfl, rfl⟩ | ⟨g55, g56, rfl, rfl⟩ | ⟨g57, g58, rfl, rfl⟩ := hw
        · refine lv_aload_n S.1 S.2.1 dL_law_253 rfl (lv_at hl 1 rfl) ?_
          refine lv_aload_n S.1 S.2.1 dL_law_254 rfl (lv_at hl 3 rfl) ?_
          refine lv_iload_n S.1 S.2.1 dL_law_255 rfl (lv_at hl 0 rfl) ?_
          refine lv_iconst (v := 1) S.1 S.2.1 dL_law_256 (by decide) ?_
          refine lv_iadd S.1 S.2.1 dL_law_257 ?_
          refine va_sld S.1 S.2.1 hX hbl hbA hS (lw_ix (c := 1) hL h6 (by decide) (by decide)) dL_law_258 ?_
          refine cl2_i (w := wr rr) (As := [.int (xs ((nI (1 + 5 * j)) + 1).toNatClampNeg)]) (rest := [.int 0]) S hN hKr hQ hP (ds_ hD) hS hA hl.1 (c_M_start l D rr _ pc ac lk mq ma mb ir sw io dl ha rd sn md kf kb cn pf co ou (xs ((nI (1 + 5 * j)) + 1).toNatClampNeg) ) k_L_46 (rc_M hKr hQ) ⟨by decide, by decide⟩ rfl rfl (Nat.le_of_ble_eq_true rfl) ⟨Nat.le_refl _, Nat.le_refl _⟩ dL_law_259 (fun r u H locs hw hQ hP hD hS => ?_)
          have hD := ds_ hD
          obtain ⟨g59, rfl, rfl⟩ | ⟨g60, g61, rfl, rfl⟩ | ⟨g62, g63, rfl, rfl⟩ := hw
          · refine lv_icmp_eq (tgt := 404) S.1 S.2.1 dL_law_262 (by decide) (fun _ => ?_) (fun g64 => absurd (by decide) g64)
            refine lv_iinc (k := 0) (v := (nI (1 + 5 * (j + 1)))) S.1 S.2.1 dL_law_404 hl rfl (lw_5 j) (by decide) rfl (fun ls hl => ?_)
            have hl : lv_has ls 4 [(3, .int (nI (1 + 5 * (j + 1)))), (2, .ref rr.1), (1, .ref a.1), (0, .ref b)] := hl
            refine lv_goto (tgt := 28) S.1 S.2.1 dL_law_407 (by decide) ?_
            exact ih (j + 1) (pc, ac, lk, mq, ma, mb, ir, sw, io, dl, ha, rd, sn, md, kf, kb, cn, pf, co, ou) H locs ls (by omega) (by omega) I hl hP hQ hD hS
          · exact absurd g54 g60
          · exact absurd g54 g62
        · refine lv_aload_n S.1 S.2.1 dL_law_253 rfl (lv_at hl 1 rfl) ?_
          refine lv_aload_n S.1 S.2.1 dL_law_254 rfl (lv_at hl 3 rfl) ?_
          refine lv_iload_n S.1 S.2.1 dL_law_255 rfl (lv_at hl 0 rfl) ?_
          refine lv_iconst (v := 1) S.1 S.2.1 dL_law_256 (by decide) ?_
          refine lv_iadd S.1 S.2.1 dL_law_257 ?_
          refine va_sld S.1 S.2.1 hX hbl hbA hS (lw_ix (c := 1) hL h6 (by decide) (by decide)) dL_law_258 ?_
          refine cl2_i (w := wr rr) (As := [.int (xs ((nI (1 + 5 * j)) + 1).toNatClampNeg)]) (rest := [.int 0]) S hN hKr hQ hP (ds_ hD) hS hA hl.1 (c_M_start l D rr _ pc ac lk mq ma mb ir sw io dl ha rd sn md kf kb cn pf co ou (xs ((nI (1 + 5 * j)) + 1).toNatClampNeg) ) k_L_46 (rc_M hKr hQ) ⟨by decide, by decide⟩ rfl rfl (Nat.le_of_ble_eq_true rfl) ⟨Nat.le_refl _, Nat.le_refl _⟩ dL_law_259 (fun r u H locs hw hQ hP hD hS => ?_)
          have hD := ds_ hD
          obtain ⟨g65, rfl, rfl⟩ | ⟨g66, g67, rfl, rfl⟩ | ⟨g68, g69, rfl, rfl⟩ := hw
          · exact absurd g65 g55
          · refine lv_icmp_eq (tgt := 404) S.1 S.2.1 dL_law_262 (by decide) (fun _ => ?_) (fun g70 => absurd (by decide) g70)
            refine lv_iinc (k := 0) (v := (nI (1 + 5 * (j + 1)))) S.1 S.2.1 dL_law_404 hl rfl (lw_5 j) (by decide) rfl (fun ls hl => ?_)
            have hl : lv_has ls 4 [(3, .int (nI (1 + 5 * (j + 1)))), (2, .ref rr.1), (1, .ref a.1), (0, .ref b)] := hl
            refine lv_goto (tgt := 28) S.1 S.2.1 dL_law_407 (by decide) ?_
            exact ih (j + 1) (pc, ac, lk, mq, ma, mb, ir, sw, io, dl, ha, rd, sn, md, kf, kb, cn, pf, co, ou) H locs ls (by omega) (by omega) I hl hP hQ hD hS
          · exact absurd g69 g56
        · refine lv_aload_n S.1 S.2.1 dL_law_253 rfl (lv_at hl 1 rfl) ?_
          refine lv_aload_n S.1 S.2.1 dL_law_254 rfl (lv_at hl 3 rfl) ?_
          refine lv_iload_n S.1 S.2.1 dL_law_255 rfl (lv_at hl 0 rfl) ?_
          refine lv_iconst (v := 1) S.1 S.2.1 dL_law_256 (by decide) ?_
          refine lv_iadd S.1 S.2.1 dL_law_257 ?_
          refine va_sld S.1 S.2.1 hX hbl hbA hS (lw_ix (c := 1) hL h6 (by decide) (by decide)) dL_law_258 ?_
          refine cl2_i (w := wr rr) (As := [.int (xs ((nI (1 + 5 * j)) + 1).toNatClampNeg)]) (rest := [.int 1]) S hN hKr hQ hP (ds_ hD) hS hA hl.1 (c_M_start l D rr _ pc ac lk mq ma mb ir sw io dl ha rd sn md kf kb cn pf co ou (xs ((nI (1 + 5 * j)) + 1).toNatClampNeg) ) k_L_46 (rc_M hKr hQ) ⟨by decide, by decide⟩ rfl rfl (Nat.le_of_ble_eq_true rfl) ⟨Nat.le_refl _, Nat.le_refl _⟩ dL_law_259 (fun r u H locs hw hQ hP hD hS => ?_)
          have hD := ds_ hD
          obtain ⟨g71, rfl, rfl⟩ | ⟨g72, g73, rfl, rfl⟩ | ⟨g74, g75, rfl, rfl⟩ := hw
          · exact absurd g71 g57
          · exact absurd g58 g73
          · refine lv_icmp_eq (tgt := 404) S.1 S.2.1 dL_law_262 (by decide) (fun _ => ?_) (fun g76 => absurd (by decide) g76)
            refine lv_iinc (k := 0) (v := (nI (1 + 5 * (j + 1)))) S.1 S.2.1 dL_law_404 hl rfl (lw_5 j) (by decide) rfl (fun ls hl => ?_)
            have hl : lv_has ls 4 [(3, .int (nI (1 + 5 * (j + 1)))), (2, .ref rr.1), (1, .ref a.1), (0, .ref b)] := hl
            refine lv_goto (tgt := 28) S.1 S.2.1 dL_law_407 (by decide) ?_
            exact ih (j + 1) (((xs ((nI (1 + 5 * j)) + 1).toNatClampNeg) &&& 4095), ac, lk, mq, ma, mb, ir, sw, io, dl, 0, rd, sn, md, kf, kb, cn, pf, co, ou) H locs ls (by omega) (by omega) (iv_start I (xs ((nI (1 + 5 * j)) + 1).toNatClampNeg)) hl hP hQ hD hS
      by_cases g77 : ((xs (nI (1 + 5 * j)).toNatClampNeg) &&& 15) = 5
      · refine lv_tableIn (off := 225) (tgt := 267) S.1 S.2.1 dL_law_42 (by rw [g77]; decide +kernel) (by rw [g77]; decide +kernel) (by rw [g77]; decide +kernel) (by decide) ?_
        refine lv_aload_n S.1 S.2.1 dL_law_267 rfl (lv_at hl 2 rfl) ?_
        refine lv_aload_n S.1 S.2.1 dL_law_268 rfl (lv_at hl 3 rfl) ?_
        refine lv_iload_n S.1 S.2.1 dL_law_269 rfl (lv_at hl 0 rfl) ?_
        refine lv_iconst (v := 1) S.1 S.2.1 dL_law_270 (by decide) ?_
        refine lv_iadd S.1 S.2.1 dL_law_271 ?_
        refine va_sld S.1 S.2.1 hX hbl hbA hS (lw_ix (c := 1) hL h6 (by decide) (by decide)) dL_law_272 ?_
        refine cl2_v (w := wx a) (As := [.int (xs ((nI (1 + 5 * j)) + 1).toNatClampNeg)]) (rest := []) S hN hKx hP hQ hD hS hA hl.1 (c_X_switches l D a _ pc ac lk mq ma mb ir sw io dl ha rd sn md kf kb cn pf co ou (xs ((nI (1 + 5 * j)) + 1).toNatClampNeg) ) k_L_47 (rc_X hKx hP) ⟨by decide, by decide⟩ rfl rfl (Nat.le_of_ble_eq_true rfl) ⟨Nat.le_refl _, Nat.le_refl _⟩ dL_law_273 (fun u H locs hw hP hQ hD hS => ?_)
        obtain rfl := hw
        refine lv_aload_n S.1 S.2.1 dL_law_276 rfl (lv_at hl 1 rfl) ?_
        refine lv_aload_n S.1 S.2.1 dL_law_277 rfl (lv_at hl 3 rfl) ?_
        refine lv_iload_n S.1 S.2.1 dL_law_278 rfl (lv_at hl 0 rfl) ?_
        refine lv_iconst (v := 1) S.1 S.2.1 dL_law_279 (by decide) ?_
        refine lv_iadd S.1 S.2.1 dL_law_280 ?_
        refine va_sld S.1 S.2.1 hX hbl hbA hS (lw_ix (c := 1) hL h6 (by decide) (by decide)) dL_law_281 ?_
        refine cl2_v (w := wr rr) (As := [.int (xs ((nI (1 + 5 * j)) + 1).toNatClampNeg)]) (rest := []) S hN hKr hQ hP (ds_ hD) hS hA hl.1 (c_M_switches l D rr _ pc ac lk mq ma mb ir sw io dl ha rd sn md kf kb cn pf co ou (xs ((nI (1 + 5 * j)) + 1).toNatClampNeg) ) k_L_50 (rc_M hKr hQ) ⟨by decide, by decide⟩ rfl rfl (Nat.le_of_ble_eq_true rfl) ⟨Nat.le_refl _, Nat.le_refl _⟩ dL_law_282 (fun u H locs hw hQ hP hD hS => ?_)
        have hD := ds_ hD
        obtain rfl := hw
        refine lv_goto (tgt := 404) S.1 S.2.1 dL_law_285 (by decide) ?_
        refine lv_iinc (k := 0) (v := (nI (1 + 5 * (j + 1)))) S.1 S.2.1 dL_law_404 hl rfl (lw_5 j) (by decide) rfl (fun ls hl => ?_)
        have hl : lv_has ls 4 [(3, .int (nI (1 + 5 * (j + 1)))), (2, .ref rr.1), (1, .ref a.1), (0, .ref b)] := hl
        refine lv_goto (tgt := 28) S.1 S.2.1 dL_law_407 (by decide) ?_
        exact ih (j + 1) (pc, ac, lk, mq, ma, mb, ir, ((xs ((nI (1 + 5 * j)) + 1).toNatClampNeg) &&& 4095), io, dl, ha, rd, sn, md, kf, kb, cn, pf, co, ou) H locs ls (by omega) (by omega) (iv_sw I (xs ((nI (1 + 5 * j)) + 1).toNatClampNeg)) hl hP hQ hD hS
      by_cases g78 : ((xs (nI (1 + 5 * j)).toNatClampNeg) &&& 15) = 6
      · refine lv_tableIn (off := 246) (tgt := 288) S.1 S.2.1 dL_law_42 (by rw [g78]; decide +kernel) (by rw [g78]; decide +kernel) (by rw [g78]; decide +kernel) (by decide) ?_
        refine lv_aload_n S.1 S.2.1 dL_law_288 rfl (lv_at hl 2 rfl) ?_
        refine lv_aload_n S.1 S.2.1 dL_law_289 rfl (lv_at hl 3 rfl) ?_
        refine lv_iload_n S.1 S.2.1 dL_law_290 rfl (lv_at hl 0 rfl) ?_
        refine lv_iconst (v := 1) S.1 S.2.1 dL_law_291 (by decide) ?_
        refine lv_iadd S.1 S.2.1 dL_law_292 ?_
        refine va_sld S.1 S.2.1 hX hbl hbA hS (lw_ix (c := 1) hL h6 (by decide) (by decide)) dL_law_293 ?_
        refine cl2_v (w := wx a) (As := [.int (xs ((nI (1 + 5 * j)) + 1).toNatClampNeg)]) (rest := []) S hN hKx hP hQ hD hS hA hl.1 (c_X_key l D a _ pc ac lk mq ma mb ir sw io dl ha rd sn md kf kb cn pf co ou (xs ((nI (1 + 5 * j)) + 1).toNatClampNeg) ) k_L_51 (rc_X hKx hP) ⟨by decide, by decide⟩ rfl rfl (Nat.le_of_ble_eq_true rfl) ⟨Nat.le_refl _, Nat.le_refl _⟩ dL_law_294 (fun u H locs hw hP hQ hD hS => ?_)
        obtain rfl := hw
        refine lv_aload_n S.1 S.2.1 dL_law_297 rfl (lv_at hl 1 rfl) ?_
        refine lv_aload_n S.1 S.2.1 dL_law_298 rfl (lv_at hl 3 rfl) ?_
        refine lv_iload_n S.1 S.2.1 dL_law_299 rfl (lv_at hl 0 rfl) ?_
        refine lv_iconst (v := 1) S.1 S.2.1 dL_law_300 (by decide) ?_
        refine lv_iadd S.1 S.2.1 dL_law_301 ?_
        refine va_sld S.1 S.2.1 hX hbl hbA hS (lw_ix (c := 1) hL h6 (by decide) (by decide)) dL_law_302 ?_
        refine cl2_v (w := wr rr) (As := [.int (xs ((nI (1 + 5 * j)) + 1).toNatClampNeg)]) (rest := []) S hN hKr hQ hP (ds_ hD) hS hA hl.1 (c_M_key l D rr _ pc ac lk mq ma mb ir sw io dl ha rd sn md kf kb cn pf co ou (xs ((nI (1 + 5 * j)) + 1).toNatClampNeg) ) k_L_54 (rc_M hKr hQ) ⟨by decide, by decide⟩ rfl rfl (Nat.le_of_ble_eq_true rfl) ⟨Nat.le_refl _, Nat.le_refl _⟩ dL_law_303 (fun u H locs hw hQ hP hD hS => ?_)
        have hD := ds_ hD
        obtain rfl := hw
        refine lv_goto (tgt := 404) S.1 S.2.1 dL_law_306 (by decide) ?_
        refine lv_iinc (k := 0) (v := (nI (1 + 5 * (j + 1)))) S.1 S.2.1 dL_law_404 hl rfl (lw_5 j) (by decide) rfl (fun ls hl => ?_)
        have hl : lv_has ls 4 [(3, .int (nI (1 + 5 * (j + 1)))), (2, .ref rr.1), (1, .ref a.1), (0, .ref b)] := hl
        refine lv_goto (tgt := 28) S.1 S.2.1 dL_law_407 (by decide) ?_
        exact ih (j + 1) (pc, ac, lk, mq, ma, mb, ir, sw, io, dl, ha, rd, sn, md, 1, ((xs ((nI (1 + 5 * j)) + 1).toNatClampNeg) &&& 255), cn, pf, co, ou) H locs ls (by omega) (by omega) (iv_key I (xs ((nI (1 + 5 * j)) + 1).toNatClampNeg)) hl hP hQ hD hS
      by_cases g79 : ((xs (nI (1 + 5 * j)).toNatClampNeg) &&& 15) = 7
      · refine lv_tableIn (off := 267) (tgt := 309) S.1 S.2.1 dL_law_42 (by rw [g79]; decide +kernel) (by rw [g79]; decide +kernel) (by rw [g79]; decide +kernel) (by decide) ?_
        refine lv_aload_n S.1 S.2.1 dL_law_309 rfl (lv_at hl 2 rfl) ?_
        refine cl2_i (w := wx a) (As := []) (rest := []) S hN hKx hP hQ hD hS hA hl.1 (c_X_microStep l D a _ pc ac lk mq ma mb ir sw io dl ha rd sn md kf kb cn pf co ou  hsn hn100 hcn) k_L_55 (rc_X hKx hP) ⟨by decide, by decide⟩ rfl rfl (Nat.le_of_ble_eq_true rfl) ⟨Nat.le_refl _, Nat.le_refl _⟩ dL_law_310 (fun r1 u1 H locs hw1 hP hQ hD hS => ?_)
        refine lv_aload_n S.1 S.2.1 dL_law_313 rfl (lv_at hl 1 rfl) ?_
        refine cl2_i (w := wr rr) (As := []) (rest := [.int r1]) S hN hKr hQ hP (ds_ hD) hS hA hl.1 (c_M_microStep l D rr _ pc ac lk mq ma mb ir sw io dl ha rd sn md kf kb cn pf co ou  J) k_L_59 (rc_M hKr hQ) ⟨by decide, by decide⟩ rfl rfl (Nat.le_of_ble_eq_true rfl) ⟨Nat.le_refl _, Nat.le_refl _⟩ dL_law_314 (fun r2 u2 H locs hw2 hQ hP hD hS => ?_)
        have hD := ds_ hD
        rw [← hcap] at hw2
        have hq := hw2.trans hw1.symm
        have e1 : r2 = r1 := congrArg Prod.fst hq
        have e2 : u2 = u1 := congrArg Prod.snd hq
        rw [e2] at hQ hD
        refine lv_icmp_eq (tgt := 404) S.1 S.2.1 dL_law_317 (by decide) (fun _ => ?_) (fun g80 => absurd e1.symm g80)
        refine lv_iinc (k := 0) (v := (nI (1 + 5 * (j + 1)))) S.1 S.2.1 dL_law_404 hl rfl (lw_5 j) (by decide) rfl (fun ls hl => ?_)
        have hl : lv_has ls 4 [(3, .int (nI (1 + 5 * (j + 1)))), (2, .ref rr.1), (1, .ref a.1), (0, .ref b)] := hl
        refine lv_goto (tgt := 28) S.1 S.2.1 dL_law_407 (by decide) ?_
        exact ih (j + 1) u1 H locs ls (by omega) (by omega) (by have z : u1 = _ := congrArg Prod.snd hw1; rw [z]; exact iv_ms I) hl hP hQ hD hS
      by_cases g81 : ((xs (nI (1 + 5 * j)).toNatClampNeg) &&& 15) = 8
      · refine lv_tableIn (off := 280) (tgt := 322) S.1 S.2.1 dL_law_42 (by rw [g81]; decide +kernel) (by rw [g81]; decide +kernel) (by rw [g81]; decide +kernel) (by decide) ?_
        refine lv_aload_n S.1 S.2.1 dL_law_322 rfl (lv_at hl 2 rfl) ?_
        refine cl2_i (w := wx a) (As := []) (rest := []) S hN hKx hP hQ hD hS hA hl.1 (c_X_step l D a _ pc ac lk mq ma mb ir sw io dl ha rd sn md kf kb cn pf co ou  I) k_L_60 (rc_X hKx hP) ⟨by decide, by decide⟩ rfl rfl (Nat.le_of_ble_eq_true rfl) ⟨Nat.le_refl _, Nat.le_refl _⟩ dL_law_323 (fun r1 u1 H locs hw1 hP hQ hD hS => ?_)
        refine lv_aload_n S.1 S.2.1 dL_law_326 rfl (lv_at hl 1 rfl) ?_
        refine cl2_i (w := wr rr) (As := []) (rest := [.int r1]) S hN hKr hQ hP (ds_ hD) hS hA hl.1 (c_M_step l D rr _ pc ac lk mq ma mb ir sw io dl ha rd sn md kf kb cn pf co ou  J) k_L_63 (rc_M hKr hQ) ⟨by decide, by decide⟩ rfl rfl (Nat.le_of_ble_eq_true rfl) ⟨Nat.le_refl _, Nat.le_refl _⟩ dL_law_327 (fun r2 u2 H locs hw2 hQ hP hD hS => ?_)
        have hD := ds_ hD
        rw [← hcap] at hw2
        have hq := hw2.trans hw1.symm
        have e1 : r2 = r1 := congrArg Prod.fst hq
        have e2 : u2 = u1 := congrArg Prod.snd hq
        rw [e2] at hQ hD
        refine lv_icmp_eq (tgt := 404) S.1 S.2.1 dL_law_330 (by decide) (fun _ => ?_) (fun g82 => absurd e1.symm g82)
        refine lv_iinc (k := 0) (v := (nI (1 + 5 * (j + 1)))) S.1 S.2.1 dL_law_404 hl rfl (lw_5 j) (by decide) rfl (fun ls hl => ?_)
        have hl : lv_has ls 4 [(3, .int (nI (1 + 5 * (j + 1)))), (2, .ref rr.1), (1, .ref a.1), (0, .ref b)] := hl
        refine lv_goto (tgt := 28) S.1 S.2.1 dL_law_407 (by decide) ?_
        exact ih (j + 1) u1 H locs ls (by omega) (by omega) (by have z : u1 = _ := congrArg Prod.snd hw1; rw [z]; exact iv_stf I) hl hP hQ hD hS
      by_cases g83 : ((xs (nI (1 + 5 * j)).toNatClampNeg) &&& 15) = 9
      · refine lv_tableIn (off := 293) (tgt := 335) S.1 S.2.1 dL_law_42 (by rw [g83]; decide +kernel) (by rw [g83]; decide +kernel) (by rw [g83]; decide +kernel) (by decide) ?_
        refine lv_aload_n S.1 S.2.1 dL_law_335 rfl (lv_at hl 2 rfl) ?_
        refine lv_aload_n S.1 S.2.1 dL_law_336 rfl (lv_at hl 3 rfl) ?_
        refine lv_iload_n S.1 S.2.1 dL_law_337 rfl (lv_at hl 0 rfl) ?_
        refine lv_iconst (v := 1) S.1 S.2.1 dL_law_338 (by decide) ?_
        refine lv_iadd S.1 S.2.1 dL_law_339 ?_
        refine va_sld S.1 S.2.1 hX hbl hbA hS (lw_ix (c := 1) hL h6 (by decide) (by decide)) dL_law_340 ?_
        refine cl2_i (w := wx a) (As := [.int (xs ((nI (1 + 5 * j)) + 1).toNatClampNeg)]) (rest := []) S hN hKx hP hQ hD hS hA hl.1 (c_X_run l D a _ pc ac lk mq ma mb ir sw io dl ha rd sn md kf kb cn pf co ou (xs ((nI (1 + 5 * j)) + 1).toNatClampNeg) I) k_L_64 (rc_X hKx hP) ⟨by decide, by decide⟩ rfl rfl (Nat.le_of_ble_eq_true rfl) ⟨Nat.le_refl _, Nat.le_refl _⟩ dL_law_341 (fun r1 u1 H locs hw1 hP hQ hD hS => ?_)
        refine lv_aload_n S.1 S.2.1 dL_law_344 rfl (lv_at hl 1 rfl) ?_
        refine lv_aload_n S.1 S.2.1 dL_law_345 rfl (lv_at hl 3 rfl) ?_
        refine lv_iload_n S.1 S.2.1 dL_law_346 rfl (lv_at hl 0 rfl) ?_
        refine lv_iconst (v := 1) S.1 S.2.1 dL_law_347 (by decide) ?_
        refine lv_iadd S.1 S.2.1 dL_law_348 ?_
        refine va_sld S.1 S.2.1 hX hbl hbA hS (lw_ix (c := 1) hL h6 (by decide) (by decide)) dL_law_349 ?_
        refine cl2_i (w := wr rr) (As := [.int (xs ((nI (1 + 5 * j)) + 1).toNatClampNeg)]) (rest := [.int r1]) S hN hKr hQ hP (ds_ hD) hS hA hl.1 (c_M_run l D rr _ pc ac lk mq ma mb ir sw io dl ha rd sn md kf kb cn pf co ou (xs ((nI (1 + 5 * j)) + 1).toNatClampNeg) J) k_L_67 (rc_M hKr hQ) ⟨by decide, by decide⟩ rfl rfl (Nat.le_of_ble_eq_true rfl) ⟨Nat.le_refl _, Nat.le_refl _⟩ dL_law_350 (fun r2 u2 H locs hw2 hQ hP hD hS => ?_)
        have hD := ds_ hD
        rw [← hcap] at hw2
        have hq := hw2.trans hw1.symm
        have e1 : r2 = r1 := congrArg Prod.fst hq
        have e2 : u2 = u1 := congrArg Prod.snd hq
        rw [e2] at hQ hD
        refine lv_icmp_eq (tgt := 404) S.1 S.2.1 dL_law_353 (by decide) (fun _ => ?_) (fun g84 => absurd e1.symm g84)
        refine lv_iinc (k := 0) (v := (nI (1 + 5 * (j + 1)))) S.1 S.2.1 dL_law_404 hl rfl (lw_5 j) (by decide) rfl (fun ls hl => ?_)
        have hl : lv_has ls 4 [(3, .int (nI (1 + 5 * (j + 1)))), (2, .ref rr.1), (1, .ref a.1), (0, .ref b)] := hl
        refine lv_goto (tgt := 28) S.1 S.2.1 dL_law_407 (by decide) ?_
        exact ih (j + 1) u1 H locs ls (by omega) (by omega) (by have z : u1 = _ := congrArg Prod.snd hw1; rw [z]; exact iv_run I) hl hP hQ hD hS
      by_cases g85 : ((xs (nI (1 + 5 * j)).toNatClampNeg) &&& 15) = 10
      · refine lv_tableIn (off := 316) (tgt := 358) S.1 S.2.1 dL_law_42 (by rw [g85]; decide +kernel) (by rw [g85]; decide +kernel) (by rw [g85]; decide +kernel) (by decide) ?_
        refine lv_aload_n S.1 S.2.1 dL_law_358 rfl (lv_at hl 2 rfl) ?_
        refine lv_aload_n S.1 S.2.1 dL_law_359 rfl (lv_at hl 3 rfl) ?_
        refine lv_iload_n S.1 S.2.1 dL_law_360 rfl (lv_at hl 0 rfl) ?_
        refine lv_iconst (v := 1) S.1 S.2.1 dL_law_361 (by decide) ?_
        refine lv_iadd S.1 S.2.1 dL_law_362 ?_
        refine va_sld S.1 S.2.1 hX hbl hbA hS (lw_ix (c := 1) hL h6 (by decide) (by decide)) dL_law_363 ?_
        refine cl2_i (w := wx a) (As := [.int (xs ((nI (1 + 5 * j)) + 1).toNatClampNeg)]) (rest := []) S hN hKx hP hQ hD hS hA hl.1 (c_X_look l D a _ pc ac lk mq ma mb ir sw io dl ha rd sn md kf kb cn pf co ou (xs ((nI (1 + 5 * j)) + 1).toNatClampNeg) ) k_L_68 (rc_X hKx hP) ⟨by decide, by decide⟩ rfl rfl (Nat.le_of_ble_eq_true rfl) ⟨Nat.le_refl _, Nat.le_refl _⟩ dL_law_364 (fun r u H locs hw hP hQ hD hS => ?_)
        obtain ⟨g86, er, rfl⟩ | ⟨g87, er, rfl⟩ | ⟨g88, er, rfl⟩ | ⟨g89, er, rfl⟩ | ⟨g90, er, rfl⟩ | ⟨g91, er, rfl⟩ | ⟨g92, er, rfl⟩ | ⟨g93, er, rfl⟩ | ⟨g94, rfl, rfl⟩ | ⟨g95, er, rfl⟩ | ⟨g96, er, rfl⟩ | ⟨g97, g98, g99, g100, g101, g102, g103, g104, g105, g106, g107, rfl, rfl⟩ := hw
        · rw [er]
          refine lv_aload_n S.1 S.2.1 dL_law_367 rfl (lv_at hl 1 rfl) ?_
          refine lv_aload_n S.1 S.2.1 dL_law_368 rfl (lv_at hl 3 rfl) ?_
          refine lv_iload_n S.1 S.2.1 dL_law_369 rfl (lv_at hl 0 rfl) ?_
          refine lv_iconst (v := 1) S.1 S.2.1 dL_law_370 (by decide) ?_
          refine lv_iadd S.1 S.2.1 dL_law_371 ?_
          refine va_sld S.1 S.2.1 hX hbl hbA hS (lw_ix (c := 1) hL h6 (by decide) (by decide)) dL_law_372 ?_
          refine cl2_i (w := wr rr) (As := [.int (xs ((nI (1 + 5 * j)) + 1).toNatClampNeg)]) (rest := [.int pc]) S hN hKr hQ hP (ds_ hD) hS hA hl.1 (c_M_look l D rr _ pc ac lk mq ma mb ir sw io dl ha rd sn md kf kb cn pf co ou (xs ((nI (1 + 5 * j)) + 1).toNatClampNeg) ) k_L_71 (rc_M hKr hQ) ⟨by decide, by decide⟩ rfl rfl (Nat.le_of_ble_eq_true rfl) ⟨Nat.le_refl _, Nat.le_refl _⟩ dL_law_373 (fun r u H locs hw hQ hP hD hS => ?_)
          have hD := ds_ hD
          obtain ⟨g108, er, rfl⟩ | ⟨g109, er, rfl⟩ | ⟨g110, er, rfl⟩ | ⟨g111, er, rfl⟩ | ⟨g112, er, rfl⟩ | ⟨g113, er, rfl⟩ | ⟨g114, er, rfl⟩ | ⟨g115, er, rfl⟩ | ⟨g116, rfl, rfl⟩ | ⟨g117, er, rfl⟩ | ⟨g118, er, rfl⟩ | ⟨g119, g120, g121, g122, g123, g124, g125, g126, g127, g128, g129, rfl, rfl⟩ := hw
          · rw [er]
            refine lv_icmp_eq (tgt := 404) S.1 S.2.1 dL_law_376 (by decide) (fun _ => ?_) (fun g130 => absurd rfl g130)
            refine lv_iinc (k := 0) (v := (nI (1 + 5 * (j + 1)))) S.1 S.2.1 dL_law_404 hl rfl (lw_5 j) (by decide) rfl (fun ls hl => ?_)
            have hl : lv_has ls 4 [(3, .int (nI (1 + 5 * (j + 1)))), (2, .ref rr.1), (1, .ref a.1), (0, .ref b)] := hl
            refine lv_goto (tgt := 28) S.1 S.2.1 dL_law_407 (by decide) ?_
            exact ih (j + 1) (pc, ac, lk, mq, ma, mb, ir, sw, io, dl, ha, rd, sn, md, kf, kb, cn, pf, co, ou) H locs ls (by omega) (by omega) I hl hP hQ hD hS
          · exact absurd (g86.symm.trans g109) (by decide)
          · exact absurd (g86.symm.trans g110) (by decide)
          · exact absurd (g86.symm.trans g111) (by decide)
          · exact absurd (g86.symm.trans g112) (by decide)
          · exact absurd (g86.symm.trans g113) (by decide)
          · exact absurd (g86.symm.trans g114) (by decide)
          · exact absurd (g86.symm.trans g115) (by decide)
          · exact absurd (g86.symm.trans g116) (by decide)
          · exact absurd (g86.symm.trans g117) (by decide)
          · exact absurd (g86.symm.trans g118) (by decide)
          · exact absurd g86 g119
        · rw [er]
          refine lv_aload_n S.1 S.2.1 dL_law_367 rfl (lv_at hl 1 rfl) ?_
          refine lv_aload_n S.1 S.2.1 dL_law_368 rfl (lv_at hl 3 rfl) ?_
          refine lv_iload_n S.1 S.2.1 dL_law_369 rfl (lv_at hl 0 rfl) ?_
          refine lv_iconst (v := 1) S.1 S.2.1 dL_law_370 (by decide) ?_
          refine lv_iadd S.1 S.2.1 dL_law_371 ?_
          refine va_sld S.1 S.2.1 hX hbl hbA hS (lw_ix (c := 1) hL h6 (by decide) (by decide)) dL_law_372 ?_
          refine cl2_i (w := wr rr) (As := [.int (xs ((nI (1 + 5 * j)) + 1).toNatClampNeg)]) (rest := [.int ac]) S hN hKr hQ hP (ds_ hD) hS hA hl.1 (c_M_look l D rr _ pc ac lk mq ma mb ir sw io dl ha rd sn md kf kb cn pf co ou (xs ((nI (1 + 5 * j)) + 1).toNatClampNeg) ) k_L_71 (rc_M hKr hQ) ⟨by decide, by decide⟩ rfl rfl (Nat.le_of_ble_eq_true rfl) ⟨Nat.le_refl _, Nat.le_refl _⟩ dL_law_373 (fun r u H locs hw hQ hP hD hS => ?_)
          have hD := ds_ hD
          obtain ⟨g131, er, rfl⟩ | ⟨g132, er, rfl⟩ | ⟨g133, er, rfl⟩ | ⟨g134, er, rfl⟩ | ⟨g135, er, rfl⟩ | ⟨g136, er, rfl⟩ | ⟨g137, er, rfl⟩ | ⟨g138, er, rfl⟩ | ⟨g139, rfl, rfl⟩ | ⟨g140, er, rfl⟩ | ⟨g141, er, rfl⟩ | ⟨g142, g143, g144, g145, g146, g147, g148, g149, g150, g151, g152, rfl, rfl⟩ := hw
          · exact absurd (g87.symm.trans g131) (by decide)
          · rw [er]
            refine lv_icmp_eq (tgt := 404) S.1 S.2.1 dL_law_376 (by decide) (fun _ => ?_) (fun g153 => absurd rfl g153)
            refine lv_iinc (k := 0) (v := (nI (1 + 5 * (j + 1)))) S.1 S.2.1 dL_law_404 hl rfl (lw_5 j) (by decide) rfl (fun ls hl => ?_)
            have hl : lv_has ls 4 [(3, .int (nI (1 + 5 * (j + 1)))), (2, .ref rr.1), (1, .ref a.1), (0, .ref b)] := hl
            refine lv_goto (tgt := 28) S.1 S.2.1 dL_law_407 (by decide) ?_
            exact ih (j + 1) (pc, ac, lk, mq, ma, mb, ir, sw, io, dl, ha, rd, sn, md, kf, kb, cn, pf, co, ou) H locs ls (by omega) (by omega) I hl hP hQ hD hS
          · exact absurd (g87.symm.trans g133) (by decide)
          · exact absurd (g87.symm.trans g134) (by decide)
          · exact absurd (g87.symm.trans g135) (by decide)
          · exact absurd (g87.symm.trans g136) (by decide)
          · exact absurd (g87.symm.trans g137) (by decide)
          · exact absurd (g87.symm.trans g138) (by decide)
          · exact absurd (g87.symm.trans g139) (by decide)
          · exact absurd (g87.symm.trans g140) (by decide)
          · exact absurd (g87.symm.trans g141) (by decide)
          · exact absurd g87 g143
        · rw [er]
          refine lv_aload_n S.1 S.2.1 dL_law_367 rfl (lv_at hl 1 rfl) ?_
          refine lv_aload_n S.1 S.2.1 dL_law_368 rfl (lv_at hl 3 rfl) ?_
          refine lv_iload_n S.1 S.2.1 dL_law_369 rfl (lv_at hl 0 rfl) ?_
          refine lv_iconst (v := 1) S.1 S.2.1 dL_law_370 (by decide) ?_
          refine lv_iadd S.1 S.2.1 dL_law_371 ?_
          refine va_sld S.1 S.2.1 hX hbl hbA hS (lw_ix (c := 1) hL h6 (by decide) (by decide)) dL_law_372 ?_
          refine cl2_i (w := wr rr) (As := [.int (xs ((nI (1 + 5 * j)) + 1).toNatClampNeg)]) (rest := [.int lk]) S hN hKr hQ hP (ds_ hD) hS hA hl.1 (c_M_look l D rr _ pc ac lk mq ma mb ir sw io dl ha rd sn md kf kb cn pf co ou (xs ((nI (1 + 5 * j)) + 1).toNatClampNeg) ) k_L_71 (rc_M hKr hQ) ⟨by decide, by decide⟩ rfl rfl (Nat.le_of_ble_eq_true rfl) ⟨Nat.le_refl _, Nat.le_refl _⟩ dL_law_373 (fun r u H locs hw hQ hP hD hS => ?_)
          have hD := ds_ hD
          obtain ⟨g154, er, rfl⟩ | ⟨g155, er, rfl⟩ | ⟨g156, er, rfl⟩ | ⟨g157, er, rfl⟩ | ⟨g158, er, rfl⟩ | ⟨g159, er, rfl⟩ | ⟨g160, er, rfl⟩ | ⟨g161, er, rfl⟩ | ⟨g162, rfl, rfl⟩ | ⟨g163, er, rfl⟩ | ⟨g164, er, rfl⟩ | ⟨g165, g166, g167, g168, g169, g170, g171, g172, g173, g174, g175, rfl, rfl⟩ := hw
          · exact absurd (g88.symm.trans g154) (by decide)
          · exact absurd (g88.symm.trans g155) (by decide)
          · rw [er]
            refine lv_icmp_eq (tgt := 404) S.1 S.2.1 dL_law_376 (by decide) (fun _ => ?_) (fun g176 => absurd rfl g176)
            refine lv_iinc (k := 0) (v := (nI (1 + 5 * (j + 1)))) S.1 S.2.1 dL_law_404 hl rfl (lw_5 j) (by decide) rfl (fun ls hl => ?_)
            have hl : lv_has ls 4 [(3, .int (nI (1 + 5 * (j + 1)))), (2, .ref rr.1), (1, .ref a.1), (0, .ref b)] := hl
            refine lv_goto (tgt := 28) S.1 S.2.1 dL_law_407 (by decide) ?_
            exact ih (j + 1) (pc, ac, lk, mq, ma, mb, ir, sw, io, dl, ha, rd, sn, md, kf, kb, cn, pf, co, ou) H locs ls (by omega) (by omega) I hl hP hQ hD hS
          · exact absurd (g88.symm.trans g157) (by decide)
          · exact absurd (g88.symm.trans g158) (by decide)
          · exact absurd (g88.symm.trans g159) (by decide)
          · exact absurd (g88.symm.trans g160) (by decide)
          · exact absurd (g88.symm.trans g161) (by decide)
          · exact absurd (g88.symm.trans g162) (by decide)
          · exact absurd (g88.symm.trans g163) (by decide)
          · exact absurd (g88.symm.trans g164) (by decide)
          · exact absurd g88 g167
        · rw [er]
          refine lv_aload_n S.1 S.2.1 dL_law_367 rfl (lv_at hl 1 rfl) ?_
          refine lv_aload_n S.1 S.2.1 dL_law_368 rfl (lv_at hl 3 rfl) ?_
          refine lv_iload_n S.1 S.2.1 dL_law_369 rfl (lv_at hl 0 rfl) ?_
          refine lv_iconst (v := 1) S.1 S.2.1 dL_law_370 (by decide) ?_
          refine lv_iadd S.1 S.2.1 dL_law_371 ?_
          refine va_sld S.1 S.2.1 hX hbl hbA hS (lw_ix (c := 1) hL h6 (by decide) (by decide)) dL_law_372 ?_
          refine cl2_i (w := wr rr) (As := [.int (xs ((nI (1 + 5 * j)) + 1).toNatClampNeg)]) (rest := [.int mq]) S hN hKr hQ hP (ds_ hD) hS hA hl.1 (c_M_look l D rr _ pc ac lk mq ma mb ir sw io dl ha rd sn md kf kb cn pf co ou (xs ((nI (1 + 5 * j)) + 1).toNatClampNeg) ) k_L_71 (rc_M hKr hQ) ⟨by decide, by decide⟩ rfl rfl (Nat.le_of_ble_eq_true rfl) ⟨Nat.le_refl _, Nat.le_refl _⟩ dL_law_373 (fun r u H locs hw hQ hP hD hS => ?_)
          have hD := ds_ hD
          obtain ⟨g177, er, rfl⟩ | ⟨g178, er, rfl⟩ | ⟨g179, er, rfl⟩ | ⟨g180, er, rfl⟩ | ⟨g181, er, rfl⟩ | ⟨g182, er, rfl⟩ | ⟨g183, er, rfl⟩ | ⟨g184, er, rfl⟩ | ⟨g185, rfl, rfl⟩ | ⟨g186, er, rfl⟩ | ⟨g187, er, rfl⟩ | ⟨g188, g189, g190, g191, g192, g193, g194, g195, g196, g197, g198, rfl, rfl⟩ := hw
          · exact absurd (g89.symm.trans g177) (by decide)
          · exact absurd (g89.symm.trans g178) (by decide)
          · exact absurd (g89.symm.trans g179) (by decide)
          · rw [er]
            refine lv_icmp_eq (tgt := 404) S.1 S.2.1 dL_law_376 (by decide) (fun _ => ?_) (fun g199 => absurd rfl g199)
            refine lv_iinc (k := 0) (v := (nI (1 + 5 * (j + 1)))) S.1 S.2.1 dL_law_404 hl rfl (lw_5 j) (by decide) rfl (fun ls hl => ?_)
            have hl : lv_has ls 4 [(3, .int (nI (1 + 5 * (j + 1)))), (2, .ref rr.1), (1, .ref a.1), (0, .ref b)] := hl
            refine lv_goto (tgt := 28) S.1 S.2.1 dL_law_407 (by decide) ?_
            exact ih (j + 1) (pc, ac, lk, mq, ma, mb, ir, sw, io, dl, ha, rd, sn, md, kf, kb, cn, pf, co, ou) H locs ls (by omega) (by omega) I hl hP hQ hD hS
          · exact absurd (g89.symm.trans g181) (by decide)
          · exact absurd (g89.symm.trans g182) (by decide)
          · exact absurd (g89.symm.trans g183) (by decide)
          · exact absurd (g89.symm.trans g184) (by decide)
          · exact absurd (g89.symm.trans g185) (by decide)
          · exact absurd (g89.symm.trans g186) (by decide)
          · exact absurd (g89.symm.trans g187) (by decide)
          · exact absurd g89 g191
        · rw [er]
          refine lv_aload_n S.1 S.2.1 dL_law_367 rfl (lv_at hl 1 rfl) ?_
          refine lv_aload_n S.1 S.2.1 dL_law_368 rfl (lv_at hl 3 rfl) ?_
          refine lv_iload_n S.1 S.2.1 dL_law_369 rfl (lv_at hl 0 rfl) ?_
          refine lv_iconst (v := 1) S.1 S.2.1 dL_law_370 (by decide) ?_
          refine lv_iadd S.1 S.2.1 dL_law_371 ?_
          refine va_sld S.1 S.2.1 hX hbl hbA hS (lw_ix (c := 1) hL h6 (by decide) (by decide)) dL_law_372 ?_
          refine cl2_i (w := wr rr) (As := [.int (xs ((nI (1 + 5 * j)) + 1).toNatClampNeg)]) (rest := [.int ma]) S hN hKr hQ hP (ds_ hD) hS hA hl.1 (c_M_look l D rr _ pc ac lk mq ma mb ir sw io dl ha rd sn md kf kb cn pf co ou (xs ((nI (1 + 5 * j)) + 1).toNatClampNeg) ) k_L_71 (rc_M hKr hQ) ⟨by decide, by decide⟩ rfl rfl (Nat.le_of_ble_eq_true rfl) ⟨Nat.le_refl _, Nat.le_refl _⟩ dL_law_373 (fun r u H locs hw hQ hP hD hS => ?_)
          have hD := ds_ hD
          obtain ⟨g200, er, rfl⟩ | ⟨g201, er, rfl⟩ | ⟨g202, er, rfl⟩ | ⟨g203, er, rfl⟩ | ⟨g204, er, rfl⟩ | ⟨g205, er, rfl⟩ | ⟨g206, er, rfl⟩ | ⟨g207, er, rfl⟩ | ⟨g208, rfl, rfl⟩ | ⟨g209, er, rfl⟩ | ⟨g210, er, rfl⟩ | ⟨g211, g212, g213, g214, g215, g216, g217, g218, g219, g220, g221, rfl, rfl⟩ := hw
          · exact absurd (g90.symm.trans g200) (by decide)
          · exact absurd (g90.symm.trans g201) (by decide)
          · exact absurd (g90.symm.trans g202) (by decide)
          · exact absurd (g90.symm.trans g203) (by decide)
          · rw [er]
            refine lv_icmp_eq (tgt := 404) S.1 S.2.1 dL_law_376 (by decide) (fun _ => ?_) (fun g222 => absurd rfl g222)
            refine lv_iinc (k := 0) (v := (nI (1 + 5 * (j + 1)))) S.1 S.2.1 dL_law_404 hl rfl (lw_5 j) (by decide) rfl (fun ls hl => ?_)
            have hl : lv_has ls 4 [(3, .int (nI (1 + 5 * (j + 1)))), (2, .ref rr.1), (1, .ref a.1), (0, .ref b)] := hl
            refine lv_goto (tgt := 28) S.1 S.2.1 dL_law_407 (by decide) ?_
            exact ih (j + 1) (pc, ac, lk, mq, ma, mb, ir, sw, io, dl, ha, rd, sn, md, kf, kb, cn, pf, co, ou) H locs ls (by omega) (by omega) I hl hP hQ hD hS
          · exact absurd (g90.symm.trans g205) (by decide)
          · exact absurd (g90.symm.trans g206) (by decide)
          · exact absurd (g90.symm.trans g207) (by decide)
          · exact absurd (g90.symm.trans g208) (by decide)
          · exact absurd (g90.symm.trans g209) (by decide)
          · exact absurd (g90.symm.trans g210) (by decide)
          · exact absurd g90 g215
        · rw [er]
          refine lv_aload_n S.1 S.2.1 dL_law_367 rfl (lv_at hl 1 rfl) ?_
          refine lv_aload_n S.1 S.2.1 dL_law_368 rfl (lv_at hl 3 rfl) ?_
          refine lv_iload_n S.1 S.2.1 dL_law_369 rfl (lv_at hl 0 rfl) ?_
          refine lv_iconst (v := 1) S.1 S.2.1 dL_law_370 (by decide) ?_
          refine lv_iadd S.1 S.2.1 dL_law_371 ?_
          refine va_sld S.1 S.2.1 hX hbl hbA hS (lw_ix (c := 1) hL h6 (by decide) (by decide)) dL_law_372 ?_
          refine cl2_i (w := wr rr) (As := [.int (xs ((nI (1 + 5 * j)) + 1).toNatClampNeg)]) (rest := [.int mb]) S hN hKr hQ hP (ds_ hD) hS hA hl.1 (c_M_look l D rr _ pc ac lk mq ma mb ir sw io dl ha rd sn md kf kb cn pf co ou (xs ((nI (1 + 5 * j)) + 1).toNatClampNeg) ) k_L_71 (rc_M hKr hQ) ⟨by decide, by decide⟩ rfl rfl (Nat.le_of_ble_eq_true rfl) ⟨Nat.le_refl _, Nat.le_refl _⟩ dL_law_373 (fun r u H locs hw hQ hP hD hS => ?_)
          have hD := ds_ hD
          obtain ⟨g223, er, rfl⟩ | ⟨g224, er, rfl⟩ | ⟨g225, er, rfl⟩ | ⟨g226, er, rfl⟩ | ⟨g227, er, rfl⟩ | ⟨g228, er, rfl⟩ | ⟨g229, er, rfl⟩ | ⟨g230, er, rfl⟩ | ⟨g231, rfl, rfl⟩ | ⟨g232, er, rfl⟩ | ⟨g233, er, rfl⟩ | ⟨g234, g235, g236, g237, g238, g239, g240, g241, g242, g243, g244, rfl, rfl⟩ := hw
          · exact absurd (g91.symm.trans g223) (by decide)
          · exact absurd (g91.symm.trans g224) (by decide)
          · exact absurd (g91.symm.trans g225) (by decide)
          · exact absurd (g91.symm.trans g226) (by decide)
          · exact absurd (g91.symm.trans g227) (by decide)
          · rw [er]
            refine lv_icmp_eq (tgt := 404) S.1 S.2.1 dL_law_376 (by decide) (fun _ => ?_) (fun g245 => absurd rfl g245)
            refine lv_iinc (k := 0) (v := (nI (1 + 5 * (j + 1)))) S.1 S.2.1 dL_law_404 hl rfl (lw_5 j) (by decide) rfl (fun ls hl => ?_)
            have hl : lv_has ls 4 [(3, .int (nI (1 + 5 * (j + 1)))), (2, .ref rr.1), (1, .ref a.1), (0, .ref b)] := hl
            refine lv_goto (tgt := 28) S.1 S.2.1 dL_law_407 (by decide) ?_
            exact ih (j + 1) (pc, ac, lk, mq, ma, mb, ir, sw, io, dl, ha, rd, sn, md, kf, kb, cn, pf, co, ou) H locs ls (by omega) (by omega) I hl hP hQ hD hS
          · exact absurd (g91.symm.trans g229) (by decide)
          · exact absurd (g91.symm.trans g230) (by decide)
          · exact absurd (g91.symm.trans g231) (by decide)
          · exact absurd (g91.symm.trans g232) (by decide)
          · exact absurd (g91.symm.trans g233) (by decide)
          · exact absurd g91 g239
        · rw [er]
          refine lv_aload_n S.1 S.2.1 dL_law_367 rfl (lv_at hl 1 rfl) ?_
          refine lv_aload_n S.1 S.2.1 dL_law_368 rfl (lv_at hl 3 rfl) ?_
          refine lv_iload_n S.1 S.2.1 dL_law_369 rfl (lv_at hl 0 rfl) ?_
          refine lv_iconst (v := 1) S.1 S.2.1 dL_law_370 (by decide) ?_
          refine lv_iadd S.1 S.2.1 dL_law_371 ?_
          refine va_sld S.1 S.2.1 hX hbl hbA hS (lw_ix (c := 1) hL h6 (by decide) (by decide)) dL_law_372 ?_
          refine cl2_i (w := wr rr) (As := [.int (xs ((nI (1 + 5 * j)) + 1).toNatClampNeg)]) (rest := [.int ir]) S hN hKr hQ hP (ds_ hD) hS hA hl.1 (c_M_look l D rr _ pc ac lk mq ma mb ir sw io dl ha rd sn md kf kb cn pf co ou (xs ((nI (1 + 5 * j)) + 1).toNatClampNeg) ) k_L_71 (rc_M hKr hQ) ⟨by decide, by decide⟩ rfl rfl (Nat.le_of_ble_eq_true rfl) ⟨Nat.le_refl _, Nat.le_refl _⟩ dL_law_373 (fun r u H locs hw hQ hP hD hS => ?_)
          have hD := ds_ hD
          obtain ⟨g246, er, rfl⟩ | ⟨g247, er, rfl⟩ | ⟨g248, er, rfl⟩ | ⟨g249, er, rfl⟩ | ⟨g250, er, rfl⟩ | ⟨g251, er, rfl⟩ | ⟨g252, er, rfl⟩ | ⟨g253, er, rfl⟩ | ⟨g254, rfl, rfl⟩ | ⟨g255, er, rfl⟩ | ⟨g256, er, rfl⟩ | ⟨g257, g258, g259, g260, g261, g262, g263, g264, g265, g266, g267, rfl, rfl⟩ := hw
          · exact absurd (g92.symm.trans g246) (by decide)
          · exact absurd (g92.symm.trans g247) (by decide)
          · exact absurd (g92.symm.trans g248) (by decide)
          · exact absurd (g92.symm.trans g249) (by decide)
          · exact absurd (g92.symm.trans g250) (by decide)
          · exact absurd (g92.symm.trans g251) (by decide)
          · rw [er]
            refine lv_icmp_eq (tgt := 404) S.1 S.2.1 dL_law_376 (by decide) (fun _ => ?_) (fun g268 => absurd rfl g268)
            refine lv_iinc (k := 0) (v := (nI (1 + 5 * (j + 1)))) S.1 S.2.1 dL_law_404 hl rfl (lw_5 j) (by decide) rfl (fun ls hl => ?_)
            have hl : lv_has ls 4 [(3, .int (nI (1 + 5 * (j + 1)))), (2, .ref rr.1), (1, .ref a.1), (0, .ref b)] := hl
            refine lv_goto (tgt := 28) S.1 S.2.1 dL_law_407 (by decide) ?_
            exact ih (j + 1) (pc, ac, lk, mq, ma, mb, ir, sw, io, dl, ha, rd, sn, md, kf, kb, cn, pf, co, ou) H locs ls (by omega) (by omega) I hl hP hQ hD hS
          · exact absurd (g92.symm.trans g253) (by decide)
          · exact absurd (g92.symm.trans g254) (by decide)
          · exact absurd (g92.symm.trans g255) (by decide)
          · exact absurd (g92.symm.trans g256) (by decide)
          · exact absurd g92 g263
        · rw [er]
          refine lv_aload_n S.1 S.2.1 dL_law_367 rfl (lv_at hl 1 rfl) ?_
          refine lv_aload_n S.1 S.2.1 dL_law_368 rfl (lv_at hl 3 rfl) ?_
          refine lv_iload_n S.1 S.2.1 dL_law_369 rfl (lv_at hl 0 rfl) ?_
          refine lv_iconst (v := 1) S.1 S.2.1 dL_law_370 (by decide) ?_
          refine lv_iadd S.1 S.2.1 dL_law_371 ?_
          refine va_sld S.1 S.2.1 hX hbl hbA hS (lw_ix (c := 1) hL h6 (by decide) (by decide)) dL_law_372 ?_
          refine cl2_i (w := wr rr) (As := [.int (xs ((nI (1 + 5 * j)) + 1).toNatClampNeg)]) (rest := [.int sn]) S hN hKr hQ hP (ds_ hD) hS hA hl.1 (c_M_look l D rr _ pc ac lk mq ma mb ir sw io dl ha rd sn md kf kb cn pf co ou (xs ((nI (1 + 5 * j)) + 1).toNatClampNeg) ) k_L_71 (rc_M hKr hQ) ⟨by decide, by decide⟩ rfl rfl (Nat.le_of_ble_eq_true rfl) ⟨Nat.le_refl _, Nat.le_refl _⟩ dL_law_373 (fun r u H locs hw hQ hP hD hS => ?_)
          have hD := ds_ hD
          obtain ⟨g269, er, rfl⟩ | ⟨g270, er, rfl⟩ | ⟨g271, er, rfl⟩ | ⟨g272, er, rfl⟩ | ⟨g273, er, rfl⟩ | ⟨g274, er, rfl⟩ | ⟨g275, er, rfl⟩ | ⟨g276, er, rfl⟩ | ⟨g277, rfl, rfl⟩ | ⟨g278, er, rfl⟩ | ⟨g279, er, rfl⟩ | ⟨g280, g281, g282, g283, g284, g285, g286, g287, g288, g289, g290, rfl, rfl⟩ := hw
          · exact absurd (g93.symm.trans g269) (by decide)
          · exact absurd (g93.symm.trans g270) (by decide)
          · exact absurd (g93.symm.trans g271) (by decide)
          · exact absurd (g93.symm.trans g272) (by decide)
          · exact absurd (g93.symm.trans g273) (by decide)
          · exact absurd (g93.symm.trans g274) (by decide)
          · exact absurd (g93.symm.trans g275) (by decide)
          · rw [er]
            refine lv_icmp_eq (tgt := 404) S.1 S.2.1 dL_law_376 (by decide) (fun _ => ?_) (fun g291 => absurd rfl g291)
            refine lv_iinc (k := 0) (v := (nI (1 + 5 * (j + 1)))) S.1 S.2.1 dL_law_404 hl rfl (lw_5 j) (by decide) rfl (fun ls hl => ?_)
            have hl : lv_has ls 4 [(3, .int (nI (1 + 5 * (j + 1)))), (2, .ref rr.1), (1, .ref a.1), (0, .ref b)] := hl
            refine lv_goto (tgt := 28) S.1 S.2.1 dL_law_407 (by decide) ?_
            exact ih (j + 1) (pc, ac, lk, mq, ma, mb, ir, sw, io, dl, ha, rd, sn, md, kf, kb, cn, pf, co, ou) H locs ls (by omega) (by omega) I hl hP hQ hD hS
          · exact absurd (g93.symm.trans g277) (by decide)
          · exact absurd (g93.symm.trans g278) (by decide)
          · exact absurd (g93.symm.trans g279) (by decide)
          · exact absurd g93 g287
        · refine lv_aload_n S.1 S.2.1 dL_law_367 rfl (lv_at hl 1 rfl) ?_
          refine lv_aload_n S.1 S.2.1 dL_law_368 rfl (lv_at hl 3 rfl) ?_
          refine lv_iload_n S.1 S.2.1 dL_law_369 rfl (lv_at hl 0 rfl) ?_
          refine lv_iconst (v := 1) S.1 S.2.1 dL_law_370 (by decide) ?_
          refine lv_iadd S.1 S.2.1 dL_law_371 ?_
          refine va_sld S.1 S.2.1 hX hbl hbA hS (lw_ix (c := 1) hL h6 (by decide) (by decide)) dL_law_372 ?_
          refine cl2_i (w := wr rr) (As := [.int (xs ((nI (1 + 5 * j)) + 1).toNatClampNeg)]) (rest := [.int (((((if io = 0 then 0 else 1) + (if dl = 0 then 0 else 2)) + (if ha = 0 then 0 else 4)) + (if kf = 0 then 0 else 8)) + (if pf = 0 then 0 else 16))]) S hN hKr hQ hP (ds_ hD) hS hA hl.1 (c_M_look l D rr _ pc ac lk mq ma mb ir sw io dl ha rd sn md kf kb cn pf co ou (xs ((nI (1 + 5 * j)) + 1).toNatClampNeg) ) k_L_71 (rc_M hKr hQ) ⟨by decide, by decide⟩ rfl rfl (Nat.le_of_ble_eq_true rfl) ⟨Nat.le_refl _, Nat.le_refl _⟩ dL_law_373 (fun r u H locs hw hQ hP hD hS => ?_)
          have hD := ds_ hD
          obtain ⟨g292, er, rfl⟩ | ⟨g293, er, rfl⟩ | ⟨g294, er, rfl⟩ | ⟨g295, er, rfl⟩ | ⟨g296, er, rfl⟩ | ⟨g297, er, rfl⟩ | ⟨g298, er, rfl⟩ | ⟨g299, er, rfl⟩ | ⟨g300, rfl, rfl⟩ | ⟨g301, er, rfl⟩ | ⟨g302, er, rfl⟩ | ⟨g303, g304, g305, g306, g307, g308, g309, g310, g311, g312, g313, rfl, rfl⟩ := hw
          · exact absurd (g94.symm.trans g292) (by decide)
          · exact absurd (g94.symm.trans g293) (by decide)
          · exact absurd (g94.symm.trans g294) (by decide)
          · exact absurd (g94.symm.trans g295) (by decide)
          · exact absurd (g94.symm.trans g296) (by decide)
          · exact absurd (g94.symm.trans g297) (by decide)
          · exact absurd (g94.symm.trans g298) (by decide)
          · exact absurd (g94.symm.trans g299) (by decide)
          · refine lv_icmp_eq (tgt := 404) S.1 S.2.1 dL_law_376 (by decide) (fun _ => ?_) (fun g314 => absurd rfl g314)
            refine lv_iinc (k := 0) (v := (nI (1 + 5 * (j + 1)))) S.1 S.2.1 dL_law_404 hl rfl (lw_5 j) (by decide) rfl (fun ls hl => ?_)
            have hl : lv_has ls 4 [(3, .int (nI (1 + 5 * (j + 1)))), (2, .ref rr.1), (1, .ref a.1), (0, .ref b)] := hl
            refine lv_goto (tgt := 28) S.1 S.2.1 dL_law_407 (by decide) ?_
            exact ih (j + 1) (pc, ac, lk, mq, ma, mb, ir, sw, io, dl, ha, rd, sn, md, kf, kb, cn, pf, co, ou) H locs ls (by omega) (by omega) I hl hP hQ hD hS
          · exact absurd (g94.symm.trans g301) (by decide)
          · exact absurd (g94.symm.trans g302) (by decide)
          · exact absurd g94 g311
        · rw [er]
          refine lv_aload_n S.1 S.2.1 dL_law_367 rfl (lv_at hl 1 rfl) ?_
          refine lv_aload_n S.1 S.2.1 dL_law_368 rfl (lv_at hl 3 rfl) ?_
          refine lv_iload_n S.1 S.2.1 dL_law_369 rfl (lv_at hl 0 rfl) ?_
          refine lv_iconst (v := 1) S.1 S.2.1 dL_law_370 (by decide) ?_
          refine lv_iadd S.1 S.2.1 dL_law_371 ?_
          refine va_sld S.1 S.2.1 hX hbl hbA hS (lw_ix (c := 1) hL h6 (by decide) (by decide)) dL_law_372 ?_
          refine cl2_i (w := wr rr) (As := [.int (xs ((nI (1 + 5 * j)) + 1).toNatClampNeg)]) (rest := [.int kb]) S hN hKr hQ hP (ds_ hD) hS hA hl.1 (c_M_look l D rr _ pc ac lk mq ma mb ir sw io dl ha rd sn md kf kb cn pf co ou (xs ((nI (1 + 5 * j)) + 1).toNatClampNeg) ) k_L_71 (rc_M hKr hQ) ⟨by decide, by decide⟩ rfl rfl (Nat.le_of_ble_eq_true rfl) ⟨Nat.le_refl _, Nat.le_refl _⟩ dL_law_373 (fun r u H locs hw hQ hP hD hS => ?_)
          have hD := ds_ hD
          obtain ⟨g315, er, rfl⟩ | ⟨g316, er, rfl⟩ | ⟨g317, er, rfl⟩ | ⟨g318, er, rfl⟩ | ⟨g319, er, rfl⟩ | ⟨g320, er, rfl⟩ | ⟨g321, er, rfl⟩ | ⟨g322, er, rfl⟩ | ⟨g323, rfl, rfl⟩ | ⟨g324, er, rfl⟩ | ⟨g325, er, rfl⟩ | ⟨g326, g327, g328, g329, g330, g331, g332, g333, g334, g335, g336, rfl, rfl⟩ := hw
          · exact absurd (g95.symm.trans g315) (by decide)
          · exact absurd (g95.symm.trans g316) (by decide)
          · exact absurd (g95.symm.trans g317) (by decide)
          · exact absurd (g95.symm.trans g318) (by decide)
          · exact absurd (g95.symm.trans g319) (by decide)
          · exact absurd (g95.symm.trans g320) (by decide)
          · exact absurd (g95.symm.trans g321) (by decide)
          · exact absurd (g95.symm.trans g322) (by decide)
          · exact absurd (g95.symm.trans g323) (by decide)
          · rw [er]
            refine lv_icmp_eq (tgt := 404) S.1 S.2.1 dL_law_376 (by decide) (fun _ => ?_) (fun g337 => absurd rfl g337)
            refine lv_iinc (k := 0) (v := (nI (1 + 5 * (j + 1)))) S.1 S.2.1 dL_law_404 hl rfl (lw_5 j) (by decide) rfl (fun ls hl => ?_)
            have hl : lv_has ls 4 [(3, .int (nI (1 + 5 * (j + 1)))), (2, .ref rr.1), (1, .ref a.1), (0, .ref b)] := hl
            refine lv_goto (tgt := 28) S.1 S.2.1 dL_law_407 (by decide) ?_
            exact ih (j + 1) (pc, ac, lk, mq, ma, mb, ir, sw, io, dl, ha, rd, sn, md, kf, kb, cn, pf, co, ou) H locs ls (by omega) (by omega) I hl hP hQ hD hS
          · exact absurd (g95.symm.trans g325) (by decide)
          · exact absurd g95 g335
        · rw [er]
          refine lv_aload_n S.1 S.2.1 dL_law_367 rfl (lv_at hl 1 rfl) ?_
          refine lv_aload_n S.1 S.2.1 dL_law_368 rfl (lv_at hl 3 rfl) ?_
          refine lv_iload_n S.1 S.2.1 dL_law_369 rfl (lv_at hl 0 rfl) ?_
          refine lv_iconst (v := 1) S.1 S.2.1 dL_law_370 (by decide) ?_
          refine lv_iadd S.1 S.2.1 dL_law_371 ?_
          refine va_sld S.1 S.2.1 hX hbl hbA hS (lw_ix (c := 1) hL h6 (by decide) (by decide)) dL_law_372 ?_
          refine cl2_i (w := wr rr) (As := [.int (xs ((nI (1 + 5 * j)) + 1).toNatClampNeg)]) (rest := [.int md]) S hN hKr hQ hP (ds_ hD) hS hA hl.1 (c_M_look l D rr _ pc ac lk mq ma mb ir sw io dl ha rd sn md kf kb cn pf co ou (xs ((nI (1 + 5 * j)) + 1).toNatClampNeg) ) k_L_71 (rc_M hKr hQ) ⟨by decide, by decide⟩ rfl rfl (Nat.le_of_ble_eq_true rfl) ⟨Nat.le_refl _, Nat.le_refl _⟩ dL_law_373 (fun r u H locs hw hQ hP hD hS => ?_)
          have hD := ds_ hD
          obtain ⟨g338, er, rfl⟩ | ⟨g339, er, rfl⟩ | ⟨g340, er, rfl⟩ | ⟨g341, er, rfl⟩ | ⟨g342, er, rfl⟩ | ⟨g343, er, rfl⟩ | ⟨g344, er, rfl⟩ | ⟨g345, er, rfl⟩ | ⟨g346, rfl, rfl⟩ | ⟨g347, er, rfl⟩ | ⟨g348, er, rfl⟩ | ⟨g349, g350, g351, g352, g353, g354, g355, g356, g357, g358, g359, rfl, rfl⟩ := hw
          · exact absurd (g96.symm.trans g338) (by decide)
          · exact absurd (g96.symm.trans g339) (by decide)
          · exact absurd (g96.symm.trans g340) (by decide)
          · exact absurd (g96.symm.trans g341) (by decide)
          · exact absurd (g96.symm.trans g342) (by decide)
          · exact absurd (g96.symm.trans g343) (by decide)
          · exact absurd (g96.symm.trans g344) (by decide)
          · exact absurd (g96.symm.trans g345) (by decide)
          · exact absurd (g96.symm.trans g346) (by decide)
          · exact absurd (g96.symm.trans g347) (by decide)
          · rw [er]
            refine lv_icmp_eq (tgt := 404) S.1 S.2.1 dL_law_376 (by decide) (fun _ => ?_) (fun g360 => absurd rfl g360)
            refine lv_iinc (k := 0) (v := (nI (1 + 5 * (j + 1)))) S.1 S.2.1 dL_law_404 hl rfl (lw_5 j) (by decide) rfl (fun ls hl => ?_)
            have hl : lv_has ls 4 [(3, .int (nI (1 + 5 * (j + 1)))), (2, .ref rr.1), (1, .ref a.1), (0, .ref b)] := hl
            refine lv_goto (tgt := 28) S.1 S.2.1 dL_law_407 (by decide) ?_
            exact ih (j + 1) (pc, ac, lk, mq, ma, mb, ir, sw, io, dl, ha, rd, sn, md, kf, kb, cn, pf, co, ou) H locs ls (by omega) (by omega) I hl hP hQ hD hS
          · exact absurd g96 g359
        · refine lv_aload_n S.1 S.2.1 dL_law_367 rfl (lv_at hl 1 rfl) ?_
          refine lv_aload_n S.1 S.2.1 dL_law_368 rfl (lv_at hl 3 rfl) ?_
          refine lv_iload_n S.1 S.2.1 dL_law_369 rfl (lv_at hl 0 rfl) ?_
          refine lv_iconst (v := 1) S.1 S.2.1 dL_law_370 (by decide) ?_
          refine lv_iadd S.1 S.2.1 dL_law_371 ?_
          refine va_sld S.1 S.2.1 hX hbl hbA hS (lw_ix (c := 1) hL h6 (by decide) (by decide)) dL_law_372 ?_
          refine cl2_i (w := wr rr) (As := [.int (xs ((nI (1 + 5 * j)) + 1).toNatClampNeg)]) (rest := [.int (-1)]) S hN hKr hQ hP (ds_ hD) hS hA hl.1 (c_M_look l D rr _ pc ac lk mq ma mb ir sw io dl ha rd sn md kf kb cn pf co ou (xs ((nI (1 + 5 * j)) + 1).toNatClampNeg) ) k_L_71 (rc_M hKr hQ) ⟨by decide, by decide⟩ rfl rfl (Nat.le_of_ble_eq_true rfl) ⟨Nat.le_refl _, Nat.le_refl _⟩ dL_law_373 (fun r u H locs hw hQ hP hD hS => ?_)
          have hD := ds_ hD
          obtain ⟨g361, er, rfl⟩ | ⟨g362, er, rfl⟩ | ⟨g363, er, rfl⟩ | ⟨g364, er, rfl⟩ | ⟨g365, er, rfl⟩ | ⟨g366, er, rfl⟩ | ⟨g367, er, rfl⟩ | ⟨g368, er, rfl⟩ | ⟨g369, rfl, rfl⟩ | ⟨g370, er, rfl⟩ | ⟨g371, er, rfl⟩ | ⟨g372, g373, g374, g375, g376, g377, g378, g379, g380, g381, g382, rfl, rfl⟩ := hw
          · exact absurd g361 g97
          · exact absurd g362 g98
          · exact absurd g363 g99
          · exact absurd g364 g100
          · exact absurd g365 g101
          · exact absurd g366 g102
          · exact absurd g367 g103
          · exact absurd g368 g104
          · exact absurd g369 g105
          · exact absurd g370 g106
          · exact absurd g371 g107
          · refine lv_icmp_eq (tgt := 404) S.1 S.2.1 dL_law_376 (by decide) (fun _ => ?_) (fun g383 => absurd (by decide) g383)
            refine lv_iinc (k := 0) (v := (nI (1 + 5 * (j + 1)))) S.1 S.2.1 dL_law_404 hl rfl (lw_5 j) (by decide) rfl (fun ls hl => ?_)
            have hl : lv_has ls 4 [(3, .int (nI (1 + 5 * (j + 1)))), (2, .ref rr.1), (1, .ref a.1), (0, .ref b)] := hl
            refine lv_goto (tgt := 28) S.1 S.2.1 dL_law_407 (by decide) ?_
            exact ih (j + 1) (pc, ac, lk, mq, ma, mb, ir, sw, io, dl, ha, rd, sn, md, kf, kb, cn, pf, co, ou) H locs ls (by omega) (by omega) I hl hP hQ hD hS
      by_cases g384 : ((xs (nI (1 + 5 * j)).toNatClampNeg) &&& 15) = 11
      · refine lv_tableIn (off := 339) (tgt := 381) S.1 S.2.1 dL_law_42 (by rw [g384]; decide +kernel) (by rw [g384]; decide +kernel) (by rw [g384]; decide +kernel) (by decide) ?_
        refine lv_aload_n S.1 S.2.1 dL_law_381 rfl (lv_at hl 2 rfl) ?_
        refine lv_aload_n S.1 S.2.1 dL_law_382 rfl (lv_at hl 3 rfl) ?_
        refine lv_iload_n S.1 S.2.1 dL_law_383 rfl (lv_at hl 0 rfl) ?_
        refine lv_iconst (v := 1) S.1 S.2.1 dL_law_384 (by decide) ?_
        refine lv_iadd S.1 S.2.1 dL_law_385 ?_
        refine va_sld S.1 S.2.1 hX hbl hbA hS (lw_ix (c := 1) hL h6 (by decide) (by decide)) dL_law_386 ?_
        refine cl2_i (w := wx a) (As := [.int (xs ((nI (1 + 5 * j)) + 1).toNatClampNeg)]) (rest := []) S hN hKx hP hQ hD hS hA hl.1 (c_X_printed l D a _ pc ac lk mq ma mb ir sw io dl ha rd sn md kf kb cn pf co ou (xs ((nI (1 + 5 * j)) + 1).toNatClampNeg) hn100 hcn) k_L_72 (rc_X hKx hP) ⟨by decide, by decide⟩ rfl rfl (Nat.le_of_ble_eq_true rfl) ⟨Nat.le_refl _, Nat.le_refl _⟩ dL_law_387 (fun r u H locs hw hP hQ hD hS => ?_)
        obtain ⟨g385, er, rfl⟩ | ⟨g386, g387, rfl, rfl⟩ | ⟨g388, g389, g390, rfl, rfl⟩ | ⟨g391, g392, g393, rfl, rfl⟩ := hw
        · rw [er]
          refine lv_aload_n S.1 S.2.1 dL_law_390 rfl (lv_at hl 1 rfl) ?_
          refine lv_aload_n S.1 S.2.1 dL_law_391 rfl (lv_at hl 3 rfl) ?_
          refine lv_iload_n S.1 S.2.1 dL_law_392 rfl (lv_at hl 0 rfl) ?_
          refine lv_iconst (v := 1) S.1 S.2.1 dL_law_393 (by decide) ?_
          refine lv_iadd S.1 S.2.1 dL_law_394 ?_
          refine va_sld S.1 S.2.1 hX hbl hbA hS (lw_ix (c := 1) hL h6 (by decide) (by decide)) dL_law_395 ?_
          refine cl2_i (w := wr rr) (As := [.int (xs ((nI (1 + 5 * j)) + 1).toNatClampNeg)]) (rest := [.int cn]) S hN hKr hQ hP (ds_ hD) hS hA hl.1 (c_M_printed l D rr _ pc ac lk mq ma mb ir sw io dl ha rd sn md kf kb cn pf co ou (xs ((nI (1 + 5 * j)) + 1).toNatClampNeg) hn102 hcn2) k_L_75 (rc_M hKr hQ) ⟨by decide, by decide⟩ rfl rfl (Nat.le_of_ble_eq_true rfl) ⟨Nat.le_refl _, Nat.le_refl _⟩ dL_law_396 (fun r u H locs hw hQ hP hD hS => ?_)
          have hD := ds_ hD
          obtain ⟨g394, er, rfl⟩ | ⟨g395, g396, rfl, rfl⟩ | ⟨g397, g398, g399, rfl, rfl⟩ | ⟨g400, g401, g402, rfl, rfl⟩ := hw
          · rw [er]
            refine lv_icmp_eq (tgt := 404) S.1 S.2.1 dL_law_399 (by decide) (fun _ => ?_) (fun g403 => absurd rfl g403)
            refine lv_iinc (k := 0) (v := (nI (1 + 5 * (j + 1)))) S.1 S.2.1 dL_law_404 hl rfl (lw_5 j) (by decide) rfl (fun ls hl => ?_)
            have hl : lv_has ls 4 [(3, .int (nI (1 + 5 * (j + 1)))), (2, .ref rr.1), (1, .ref a.1), (0, .ref b)] := hl
            refine lv_goto (tgt := 28) S.1 S.2.1 dL_law_407 (by decide) ?_
            exact ih (j + 1) (pc, ac, lk, mq, ma, mb, ir, sw, io, dl, ha, rd, sn, md, kf, kb, cn, pf, co, ou) H locs ls (by omega) (by omega) I hl hP hQ hD hS
          · exact absurd g385 g395
          · exact absurd g385 g397
          · exact absurd g385 g400
        · refine lv_aload_n S.1 S.2.1 dL_law_390 rfl (lv_at hl 1 rfl) ?_
          refine lv_aload_n S.1 S.2.1 dL_law_391 rfl (lv_at hl 3 rfl) ?_
          refine lv_iload_n S.1 S.2.1 dL_law_392 rfl (lv_at hl 0 rfl) ?_
          refine lv_iconst (v := 1) S.1 S.2.1 dL_law_393 (by decide) ?_
          refine lv_iadd S.1 S.2.1 dL_law_394 ?_
          refine va_sld S.1 S.2.1 hX hbl hbA hS (lw_ix (c := 1) hL h6 (by decide) (by decide)) dL_law_395 ?_
          refine cl2_i (w := wr rr) (As := [.int (xs ((nI (1 + 5 * j)) + 1).toNatClampNeg)]) (rest := [.int (-1)]) S hN hKr hQ hP (ds_ hD) hS hA hl.1 (c_M_printed l D rr _ pc ac lk mq ma mb ir sw io dl ha rd sn md kf kb cn pf co ou (xs ((nI (1 + 5 * j)) + 1).toNatClampNeg) hn102 hcn2) k_L_75 (rc_M hKr hQ) ⟨by decide, by decide⟩ rfl rfl (Nat.le_of_ble_eq_true rfl) ⟨Nat.le_refl _, Nat.le_refl _⟩ dL_law_396 (fun r u H locs hw hQ hP hD hS => ?_)
          have hD := ds_ hD
          obtain ⟨g404, er, rfl⟩ | ⟨g405, g406, rfl, rfl⟩ | ⟨g407, g408, g409, rfl, rfl⟩ | ⟨g410, g411, g412, rfl, rfl⟩ := hw
          · exact absurd g404 g386
          · refine lv_icmp_eq (tgt := 404) S.1 S.2.1 dL_law_399 (by decide) (fun _ => ?_) (fun g413 => absurd (by decide) g413)
            refine lv_iinc (k := 0) (v := (nI (1 + 5 * (j + 1)))) S.1 S.2.1 dL_law_404 hl rfl (lw_5 j) (by decide) rfl (fun ls hl => ?_)
            have hl : lv_has ls 4 [(3, .int (nI (1 + 5 * (j + 1)))), (2, .ref rr.1), (1, .ref a.1), (0, .ref b)] := hl
            refine lv_goto (tgt := 28) S.1 S.2.1 dL_law_407 (by decide) ?_
            exact ih (j + 1) (pc, ac, lk, mq, ma, mb, ir, sw, io, dl, ha, rd, sn, md, kf, kb, cn, pf, co, ou) H locs ls (by omega) (by omega) I hl hP hQ hD hS
          · exact absurd g387 g408
          · exact absurd g387 g411
        · refine lv_aload_n S.1 S.2.1 dL_law_390 rfl (lv_at hl 1 rfl) ?_
          refine lv_aload_n S.1 S.2.1 dL_law_391 rfl (lv_at hl 3 rfl) ?_
          refine lv_iload_n S.1 S.2.1 dL_law_392 rfl (lv_at hl 0 rfl) ?_
          refine lv_iconst (v := 1) S.1 S.2.1 dL_law_393 (by decide) ?_
          refine lv_iadd S.1 S.2.1 dL_law_394 ?_
          refine va_sld S.1 S.2.1 hX hbl hbA hS (lw_ix (c := 1) hL h6 (by decide) (by decide)) dL_law_395 ?_
          refine cl2_i (w := wr rr) (As := [.int (xs ((nI (1 + 5 * j)) + 1).toNatClampNeg)]) (rest := [.int (-1)]) S hN hKr hQ hP (ds_ hD) hS hA hl.1 (c_M_printed l D rr _ pc ac lk mq ma mb ir sw io dl ha rd sn md kf kb cn pf co ou (xs ((nI (1 + 5 * j)) + 1).toNatClampNeg) hn102 hcn2) k_L_75 (rc_M hKr hQ) ⟨by decide, by decide⟩ rfl rfl (Nat.le_of_ble_eq_true rfl) ⟨Nat.le_refl _, Nat.le_refl _⟩ dL_law_396 (fun r u H locs hw hQ hP hD hS => ?_)
          have hD := ds_ hD
          obtain ⟨g414, er, rfl⟩ | ⟨g415, g416, rfl, rfl⟩ | ⟨g417, g418, g419, rfl, rfl⟩ | ⟨g420, g421, g422, rfl, rfl⟩ := hw
          · exact absurd g414 g388
          · exact absurd g416 g389
          · refine lv_icmp_eq (tgt := 404) S.1 S.2.1 dL_law_399 (by decide) (fun _ => ?_) (fun g423 => absurd (by decide) g423)
            refine lv_iinc (k := 0) (v := (nI (1 + 5 * (j + 1)))) S.1 S.2.1 dL_law_404 hl rfl (lw_5 j) (by decide) rfl (fun ls hl => ?_)
            have hl : lv_has ls 4 [(3, .int (nI (1 + 5 * (j + 1)))), (2, .ref rr.1), (1, .ref a.1), (0, .ref b)] := hl
            refine lv_goto (tgt := 28) S.1 S.2.1 dL_law_407 (by decide) ?_
            exact ih (j + 1) (pc, ac, lk, mq, ma, mb, ir, sw, io, dl, ha, rd, sn, md, kf, kb, cn, pf, co, ou) H locs ls (by omega) (by omega) I hl hP hQ hD hS
          · exact absurd g390 g422
        · refine lv_aload_n S.1 S.2.1 dL_law_390 rfl (lv_at hl 1 rfl) ?_
          refine lv_aload_n S.1 S.2.1 dL_law_391 rfl (lv_at hl 3 rfl) ?_
          refine lv_iload_n S.1 S.2.1 dL_law_392 rfl (lv_at hl 0 rfl) ?_
          refine lv_iconst (v := 1) S.1 S.2.1 dL_law_393 (by decide) ?_
          refine lv_iadd S.1 S.2.1 dL_law_394 ?_
          refine va_sld S.1 S.2.1 hX hbl hbA hS (lw_ix (c := 1) hL h6 (by decide) (by decide)) dL_law_395 ?_
          refine cl2_i (w := wr rr) (As := [.int (xs ((nI (1 + 5 * j)) + 1).toNatClampNeg)]) (rest := [.int (ou (xs ((nI (1 + 5 * j)) + 1).toNatClampNeg).toNatClampNeg)]) S hN hKr hQ hP (ds_ hD) hS hA hl.1 (c_M_printed l D rr _ pc ac lk mq ma mb ir sw io dl ha rd sn md kf kb cn pf co ou (xs ((nI (1 + 5 * j)) + 1).toNatClampNeg) hn102 hcn2) k_L_75 (rc_M hKr hQ) ⟨by decide, by decide⟩ rfl rfl (Nat.le_of_ble_eq_true rfl) ⟨Nat.le_refl _, Nat.le_refl _⟩ dL_law_396 (fun r u H locs hw hQ hP hD hS => ?_)
          have hD := ds_ hD
          obtain ⟨g424, er, rfl⟩ | ⟨g425, g426, rfl, rfl⟩ | ⟨g427, g428, g429, rfl, rfl⟩ | ⟨g430, g431, g432, rfl, rfl⟩ := hw
          · exact absurd g424 g391
          · exact absurd g426 g392
          · exact absurd g429 g393
          · refine lv_icmp_eq (tgt := 404) S.1 S.2.1 dL_law_399 (by decide) (fun _ => ?_) (fun g433 => absurd rfl g433)
            refine lv_iinc (k := 0) (v := (nI (1 + 5 * (j + 1)))) S.1 S.2.1 dL_law_404 hl rfl (lw_5 j) (by decide) rfl (fun ls hl => ?_)
            have hl : lv_has ls 4 [(3, .int (nI (1 + 5 * (j + 1)))), (2, .ref rr.1), (1, .ref a.1), (0, .ref b)] := hl
            refine lv_goto (tgt := 28) S.1 S.2.1 dL_law_407 (by decide) ?_
            exact ih (j + 1) (pc, ac, lk, mq, ma, mb, ir, sw, io, dl, ha, rd, sn, md, kf, kb, cn, pf, co, ou) H locs ls (by omega) (by omega) I hl hP hQ hD hS
      refine lv_tableOut (tgt := 404) S.1 S.2.1 dL_law_42 (by have n0 := lv_neT g2 (a := 0) (by decide +kernel); have n1 := lv_neT g3 (a := 1) (by decide +kernel); have n2 := lv_neT g27 (a := 2) (by decide +kernel); have n3 := lv_neT g51 (a := 3) (by decide +kernel); have n4 := lv_neT g53 (a := 4) (by decide +kernel); have n5 := lv_neT g77 (a := 5) (by decide +kernel); have n6 := lv_neT g78 (a := 6) (by decide +kernel); have n7 := lv_neT g79 (a := 7) (by decide +kernel); have n8 := lv_neT g81 (a := 8) (by decide +kernel); have n9 := lv_neT g83 (a := 9) (by decide +kernel); have n10 := lv_neT g85 (a := 10) (by decide +kernel); have n11 := lv_neT g384 (a := 11) (by decide +kernel); omega) (by decide) ?_
      refine lv_iinc (k := 0) (v := (nI (1 + 5 * (j + 1)))) S.1 S.2.1 dL_law_404 hl rfl (lw_5 j) (by decide) rfl (fun ls hl => ?_)
      have hl : lv_has ls 4 [(3, .int (nI (1 + 5 * (j + 1)))), (2, .ref rr.1), (1, .ref a.1), (0, .ref b)] := hl
      refine lv_goto (tgt := 28) S.1 S.2.1 dL_law_407 (by decide) ?_
      exact ih (j + 1) (pc, ac, lk, mq, ma, mb, ir, sw, io, dl, ha, rd, sn, md, kf, kb, cn, pf, co, ou) H locs ls (by omega) (by omega) I hl hP hQ hD hS
