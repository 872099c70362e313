set_option maxHeartbeats 4000000 in
set_option maxRecDepth 100000 in
theorem c_cell (l : Launch) (b L : Nat) (xs : Nat → Int32) (hL : L ≤ 2561) : Met l yL_cell (.code yL_cell cL_cell 2 (some .int) :: wsA) { frames := 0, cells := 0, slots := 0, locals := 0 } (va_Pc [.ref b, .int 0] (fun U => va_X b L xs U U.heap)) (va_Qi (fun r (_ : Unit) => r = (if 0 < L then xs 0 else 0)) (fun _ _ => True) (fun _ => False)) 0 0 (fun _ => False) := by
  refine Met.ofW (cc := cL_cell) (maxL := 2) (ret := some .int) (by decide) rfl ?_
  intro p e s m args below meth c s₁ B hml hv
  obtain ⟨rfl, hX⟩ := hv
  have hx := B.exec
  have hb := B.bytes
  have hr := B.returns
  have hk := B.notSynchronized
  have hbl : b < s.heap.size := by
    obtain ⟨scr, h1, -⟩ := hX
    exact (Array.getElem?_eq_some_iff.mp h1).1
  have hS : va_S (fun _ => False) s.heap s.heap [] := va_S.rf
  have hl := lv_entry ([.ref b, .int 0]) (n := 2) (Nat.le_of_ble_eq_true rfl)
  rw [lg_entry_eq]
  generalize (lg_sl ([.ref b, .int 0]) ++ List.replicate (2 - (lg_sl ([.ref b, .int 0])).length) Slot.unset).toArray = ls at hl ⊢
  have hl : lv_has ls 2 [(0, .ref b), (1, .int 0)] := hl
  refine lv_iload_n hx hb dL_cell_0 rfl (lv_at hl 1 rfl) ?_
  refine lv_aload_n hx hb dL_cell_1 rfl (lv_at hl 0 rfl) ?_
  refine va_slen hx hb hX hbl (fun h => h) hS dL_cell_2 ?_
  refine lv_icmp_ge (tgt := 12) hx hb dL_cell_3 (by decide) (fun g1 => ?_) (fun g1 => ?_)
  · have hL0 : ¬ 0 < L := fun z => by
      have g2 : nI L ≤ nI 0 := g1
      have := (nI_leI (by omega) (by omega)).mp g2
      omega
    refine lv_iconst (v := 0) hx hb dL_cell_12 (by decide) ?_
    exact W.iret hx hb hr (fun t ht hW => ⟨⟨0, (), rfl, (if_neg hL0).symm, trivial⟩, hS.F ht⟩) hS.2.2 dL_cell_13 hk
  · have hL0 : 0 < L := by
      rcases Nat.eq_zero_or_pos L with h | h
      · subst h; exact absurd (show nI 0 ≤ (0 : Int32) by decide) g1
      · exact h
    refine lv_aload_n hx hb dL_cell_6 rfl (lv_at hl 0 rfl) ?_
    refine lv_iload_n hx hb dL_cell_7 rfl (lv_at hl 1 rfl) ?_
    refine va_sld hx hb hX hbl (fun h => h) hS (vp_in_nI (n := 0) hL0 (by omega)) dL_cell_8 ?_
    refine lv_goto (tgt := 13) hx hb dL_cell_9 (by decide) ?_
    exact W.iret hx hb hr (fun t ht hW => ⟨⟨xs 0, (), rfl, (if_pos hL0).symm, trivial⟩, hS.F ht⟩) hS.2.2 dL_cell_13 hk
theorem Iv_0 (n : Nat) (hn : n ≤ 100) : Iv n T0 := Iv_mk ⟨⟨wo_0, wo_0, wo_0, wo_0, wo_0, wo_0, wo_0⟩, Or.inl rfl, ⟨Or.inl rfl, Or.inl rfl, Or.inl rfl, Or.inl rfl, Or.inl rfl, Or.inl rfl⟩, Or.inl rfl, (fun q => by rcases q with q | q | q | q <;> exact absurd q (by decide)), (by decide), ⟨0, Nat.zero_le _, rfl⟩, hn, fun _ => wo_0⟩
set_option maxHeartbeats 4000000 in
set_option maxRecDepth 100000 in
theorem whole_start {p : Program} {e : Env} {s : State} {m : MethodId} {below : List Frame} {meth : Method} {c : Code} (l : Launch) {b L : Nat} {xs : Nat → Int32} (hL : L ≤ 2561) (C0 : lw_At p s m meth c b L xs) : W p l e room_1 s m #[Value.ref b] below meth c s.heap [] 0 0 (lw_Z below #[Value.ref b] s) (entryFrame m ([Value.ref b] : List Value).toArray 4) := by
  obtain ⟨hx, hb, hr, hml, hown, hts0, hX, hbl, hlk, -⟩ := C0
  have hts : ∀ w ∈ wsA, w.before #[Value.ref b] s = true := fun w h => hts0 w (List.mem_filter.mp h).1
  have S : CallFix p m c cL_law 4 s #[Value.ref b] wsA RL := ⟨hx, hb, hml, hown, hts⟩
  have hN : nw s := nw_of hts0
  obtain ⟨c0, i0, k0⟩ := u_known hts inAX (hts _ wc_is_X)
  obtain ⟨c1, i1, k1⟩ := u_known hts inAK (hts _ wc_is_K)
  obtain ⟨c2, i2, k2⟩ := u_known hts inAP (hts _ wc_is_P)
  obtain ⟨c3, i3, k3⟩ := u_known hts inAM (hts _ wc_is_M)
  obtain ⟨D, hD0⟩ : ∃ D : va_G, D = ((fun k => match k with | 0 => c0 | 1 => c1 | 2 => c2 | _ => c3), (fun k => match k with | 0 => i0 | 1 => i1 | 2 => i2 | _ => i3)) := ⟨_, rfl⟩
  have hK : va_K D vwCl [] s := by
    subst hD0
    refine ⟨fun k q hq => ?_, fun k q hk => by cases hk⟩
    match k, hq with
    | 0, hq => cases hq; exact k0
    | 1, hq => cases hq; exact k1
    | 2, hq => cases hq; exact k2
    | 3, hq => cases hq; exact k3
    | k + 4, hq => cases hq
  clear hD0
  obtain ⟨A, hAe⟩ : ∃ A : Nat → Prop, A = fun q => s.heap.size ≤ q := ⟨_, rfl⟩
  have hA : ∀ q, s.heap.size ≤ q → A q := fun q h => by rw [hAe]; exact h
  have hAf : ∀ q, A q → s.heap.size ≤ q := fun q h => by rw [hAe] at h; exact h
  have hbA : ¬ A b := fun h => by have := hAf b h; omega
  have hP : va_P D vwCl [] s.heap := fun k q h => by cases h
  have hD : va_D A [] := ⟨fun i j p q h => (by cases h), fun k q h => (by cases h)⟩
  have hS : va_S A s.heap s.heap [] := va_S.rf
  have hl := lv_entry ([.ref b]) (n := 4) (Nat.le_of_ble_eq_true rfl)
  rw [lg_entry_eq]
  generalize (lg_sl ([.ref b]) ++ List.replicate (4 - (lg_sl ([.ref b])).length) Slot.unset).toArray = ls at hl ⊢
  have hl : lv_has ls 4 [(0, .ref b)] := hl
  obtain ⟨v0, hv0⟩ : ∃ v : Int32, v = (if 0 < L then xs 0 else 0) := ⟨_, rfl⟩
  have hXw : ∀ U : State, s.WarmedH U.vm → ∀ H : Heap, U.heap = H → va_S A s.heap H [] → va_X b L xs U U.heap := fun U hW H hU hS => by
    rw [hU]
    exact va_X.moved hW.alike (hX.kept (hS.2.1 b hbl hbA))
  refine va_new (ci := 0) (fs := [.null, .null, .null, .int 0, .int 0, .int 0, .int 0, .int 0, .int 0, .int 0, .int 0, .int 0, .int 0, .int 0, .int 0, .int 0, .int 0]) (C := RX) (T := TX) (N := 17) S.1 S.2.1 hts inAX tyX tyX_ok S.2.2.2.1 (hts _ wc_cl_LX) (hts _ wc_is_X) (hts _ wc_ini_X) hK hP hD hS hA rfl (fun j hj => by rcases (show j = 0 ∨ j = 1 ∨ j = 2 ∨ j = 3 ∨ j = 4 ∨ j = 5 ∨ j = 6 ∨ j = 7 ∨ j = 8 ∨ j = 9 ∨ j = 10 ∨ j = 11 ∨ j = 12 ∨ j = 13 ∨ j = 14 ∨ j = 15 ∨ j = 16 by omega) with rfl | rfl | rfl | rfl | rfl | rfl | rfl | rfl | rfl | rfl | rfl | rfl | rfl | rfl | rfl | rfl | rfl <;> rfl) (Nat.le_of_ble_eq_true rfl) (Nat.le_of_ble_eq_true rfl) dL_law_0 (fun q H hP hD hS => ?_)
  have hP : va_P D vwCl (wx0 q) H := hP
  have hD : va_D A (wx0 q) := hD
  refine lv_dup S.1 S.2.1 dL_law_3 rfl ?_
  refine lv_aload_n S.1 S.2.1 dL_law_4 rfl (lv_at hl 0 rfl) ?_
  refine lv_iconst (v := 0) S.1 S.2.1 dL_law_5 (by decide) ?_
  refine va_calli (va_runS (As := [.ref b, .int 0]) (rest := [.ref q, .ref q]) S (c_cell l b L xs hL) ⟨callB_of 2 hts (wg_c wc_co_C) rfl rfl rfl (hts _ wc_ini_L) (hts _ wc_ml_LC) ⟨by decide, by decide, by decide +kernel⟩ ⟨Nat.le_of_ble_eq_true rfl, Nat.le_of_ble_eq_true rfl⟩, hts _ wc_sm_C⟩ ⟨fun a U g mk z => ⟨z.1, va_X.moved (u := U) (U := U.calling g mk a) (Vm.Alike.refl U.vm) z.2⟩, fun U hU hW => ⟨rfl, hXw U hW H hU ⟨hS.1, hS.2.1, fun _ h => by cases h⟩⟩⟩ rfl rfl hl.1 rfl (lv_room (Nat.le_of_ble_eq_true rfl)) dL_law_6 ⟨Nat.le_of_ble_eq_true rfl, Nat.le_of_ble_eq_true rfl⟩) hS (fun q _ h => h.elim) (fun q h => h.elim) (fun r u t H1 locs ht hvm hw hB hz1 hk1 hS => ?_)
  have hP : va_P D vwCl (wx0 q) H1 := hP.kept (fun k z hz => hk1 z.1 (hP k z hz).lt (fun h => h))
  have hw : r = v0 := hw.trans hv0.symm
  subst hw
  generalize H1 = H at hP hS ⊢
  have hFc := va_free (wc := wx0 q) hD hS hA [0] rfl
  have hPc := hP
  have hDc := hD
  have hKc := hK
  refine va_callv (va_runI (As := [.int r]) (rest := [.ref q]) S (c_X_init_ l D q H.size r) ⟨callB_of 1 hts (wg_c wc_co_X) rfl rfl rfl (hts _ wc_ini_X) (hts _ wc_ml_LX) ⟨by decide, by decide, by decide +kernel⟩ ⟨Nat.le_of_ble_eq_true rfl, Nat.le_of_ble_eq_true rfl⟩, rfl, hts _ wc_im_X⟩ ⟨fun a U g mk q => by obtain ⟨q0, q1, qP, qK, qD, qN⟩ := q; exact ⟨q0, q1, qP, va_K.moved (u := U) (U := U.calling g mk a) (Vm.Alike.refl U.vm) qK, qD, nw_same rfl qN⟩, fun U hU hW => ⟨rfl, by rw [hU], by rw [hU]; exact hPc, va_K.moved hW.alike hKc, hDc.weaken (fun _ _ _ _ => trivial), nw_warm hW hN⟩⟩ rfl rfl hl.1 rfl (lv_room (Nat.le_of_ble_eq_true rfl)) dL_law_9 ⟨Nat.le_of_ble_eq_true rfl, Nat.le_of_ble_eq_true rfl⟩) hS (fun q _ h => hFc q h) hFc (fun a t H1 locs ht hvm hw hB hz1 hk1 hS => ?_)
  obtain ⟨ha1, han⟩ := hw
  obtain ⟨hPa, hKx, hD1⟩ := hB
  rw [ht] at hPa
  have hKx := va_K.moved hvm.symm hKx
  have hDa : va_D A (wx a T0) := hD1.weaken (fun _ z _ h => hFc z.1 h)
  clear hP hD hPc hDc hk1 hFc hD1
  subst ha1
  have hP := hPa
  have hD := hDa
  generalize H1 = H at hP hS ⊢
  refine lv_astore_n S.1 S.2.1 dL_law_12 rfl hl (by decide) rfl (fun ls hl => ?_)
  have hl : lv_has ls 4 [(1, .ref a.1), (0, .ref b)] := hl
  refine va_new (ci := 3) (fs := [.null, .int 0, .int 0, .int 0, .int 0, .int 0, .int 0, .int 0, .int 0, .int 0, .int 0, .int 0, .int 0, .int 0, .int 0, .int 0, .int 0, .int 0, .int 0, .null, .int 0]) (C := RM) (T := TM) (N := 21) S.1 S.2.1 hts inAM tyM tyM_ok S.2.2.2.1 (hts _ wc_cl_LM) (hts _ wc_is_M) (hts _ wc_ini_M) hK hP hD hS hA rfl (fun j hj => by rcases (show j = 0 ∨ j = 1 ∨ j = 2 ∨ j = 3 ∨ j = 4 ∨ j = 5 ∨ j = 6 ∨ j = 7 ∨ j = 8 ∨ j = 9 ∨ j = 10 ∨ j = 11 ∨ j = 12 ∨ j = 13 ∨ j = 14 ∨ j = 15 ∨ j = 16 ∨ j = 17 ∨ j = 18 ∨ j = 19 ∨ j = 20 by omega) with rfl | rfl | rfl | rfl | rfl | rfl | rfl | rfl | rfl | rfl | rfl | rfl | rfl | rfl | rfl | rfl | rfl | rfl | rfl | rfl | rfl <;> rfl) (Nat.le_of_ble_eq_true rfl) (Nat.le_of_ble_eq_true rfl) dL_law_13 (fun q H hP hD hS => ?_)
  have hP : va_P D vwCl (wx a T0 ++ wm0 q) H := hP
  have hD : va_D A (wx a T0 ++ wm0 q) := hD
  refine lv_dup S.1 S.2.1 dL_law_16 rfl ?_
  refine lv_aload_n S.1 S.2.1 dL_law_17 rfl (lv_at hl 1 rfl) ?_
  refine lv_iconst (v := 0) S.1 S.2.1 dL_law_18 (by decide) ?_
  refine va_calli (va_runS (As := [.ref b, .int 0]) (rest := [.ref q, .ref q]) S (c_cell l b L xs hL) ⟨callB_of 2 hts (wg_c wc_co_C) rfl rfl rfl (hts _ wc_ini_L) (hts _ wc_ml_LC) ⟨by decide, by decide, by decide +kernel⟩ ⟨Nat.le_of_ble_eq_true rfl, Nat.le_of_ble_eq_true rfl⟩, hts _ wc_sm_C⟩ ⟨fun a U g mk z => ⟨z.1, va_X.moved (u := U) (U := U.calling g mk a) (Vm.Alike.refl U.vm) z.2⟩, fun U hU hW => ⟨rfl, hXw U hW H hU ⟨hS.1, hS.2.1, fun _ h => by cases h⟩⟩⟩ rfl rfl hl.1 rfl (lv_room (Nat.le_of_ble_eq_true rfl)) dL_law_19 ⟨Nat.le_of_ble_eq_true rfl, Nat.le_of_ble_eq_true rfl⟩) hS (fun q _ h => h.elim) (fun q h => h.elim) (fun r2 u t H1 locs ht hvm hw hB hz1 hk1 hS => ?_)
  have hP : va_P D vwCl (wx a T0 ++ wm0 q) H1 := hP.kept (fun k z hz => hk1 z.1 (hP k z hz).lt (fun h => h))
  have hw : r2 = r := hw.trans hv0.symm
  subst hw
  generalize H1 = H at hP hS ⊢
  have hPx : va_P D vwCl (wx a T0) H := hP.sub [0, 1, 2, 3, 4] rfl
  have hPc : va_P D vwCl (wm0 q) H := hP.sub [5] rfl
  have hDs := ds_ hD
  have hDc := dl_ hDs
  have hKc := hK
  have hFc : ∀ z, va_A (wm0 q) H.size z → A z := va_free (wc := wm0 q) hD hS hA [5] rfl
  refine va_callv (va_runI (As := [.int r2]) (rest := [.ref q]) S (c_M_init_ l D q H.size r2) ⟨callB_of 1 hts (wg_c wc_co_M) rfl rfl rfl (hts _ wc_ini_M) (hts _ wc_ml_LM) ⟨by decide, by decide, by decide +kernel⟩ ⟨Nat.le_of_ble_eq_true rfl, Nat.le_of_ble_eq_true rfl⟩, rfl, hts _ wc_im_M⟩ ⟨fun a U g mk q => by obtain ⟨q0, q1, qP, qK, qD, qN⟩ := q; exact ⟨q0, q1, qP, va_K.moved (u := U) (U := U.calling g mk a) (Vm.Alike.refl U.vm) qK, qD, nw_same rfl qN⟩, fun U hU hW => ⟨rfl, by rw [hU], by rw [hU]; exact hPc, va_K.moved hW.alike hKc, hDc.weaken (fun _ _ _ _ => trivial), nw_warm hW hN⟩⟩ rfl rfl hl.1 rfl (lv_room (Nat.le_of_ble_eq_true rfl)) dL_law_22 ⟨Nat.le_of_ble_eq_true rfl, Nat.le_of_ble_eq_true rfl⟩) hS (fun q _ h => hFc q h) hFc (fun rr t H1 locs ht hvm hw hB hz1 hk1 hS => ?_)
  obtain ⟨hr1, hrn⟩ := hw
  obtain ⟨hQ, hKr, hD1⟩ := hB
  rw [ht] at hQ
  have hKr := va_K.moved hvm.symm hKr
  obtain ⟨hP9, hD9⟩ := k2_ hDs hPx hk1 hD1 hFc
  clear hP hD hPc hDc hk1 hFc hD1 hDs hPx
  subst hr1
  have hP := hP9
  have hD := ds_ hD9
  generalize H1 = H at hP hQ hS ⊢
  refine lv_astore_n S.1 S.2.1 dL_law_25 rfl hl (by decide) rfl (fun ls hl => ?_)
  have hl : lv_has ls 4 [(2, .ref rr.1), (1, .ref a.1), (0, .ref b)] := hl
  refine lv_iconst (v := 1) S.1 S.2.1 dL_law_26 (by decide) ?_
  refine lv_istore_n S.1 S.2.1 dL_law_27 rfl hl (by decide) rfl (fun ls hl => ?_)
  have hl : lv_has ls 4 [(3, .int (nI (1 + 5 * 0))), (2, .ref rr.1), (1, .ref a.1), (0, .ref b)] := hl
  refine W.widen (k := 600000) (n := 7302250) (Nat.le_of_ble_eq_true rfl) (Nat.le_of_ble_eq_true rfl) ?_
  exact lp_law S hr hlk hN hKx hKr (han.trans hrn.symm) hX hbl hbA hA hAf hL L 0 T0 H locs ls (by omega) (by omega) (han ▸ Iv_0 _ (cl_le _)) hl hP hQ hD hS
