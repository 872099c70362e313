def wx0 (h : Nat) : va_W := [(h, .inr (0, [.null, .null, .null, .int 0, .int 0, .int 0, .int 0, .int 0, .int 0, .int 0, .int 0, .int 0, .int 0, .int 0, .int 0, .int 0, .int 0]))]
def wm0 (h : Nat) : va_W := [(h, .inr (3, [.null, .int 0, .int 0, .int 0, .int 0, .int 0, .int 0, .int 0, .int 0, .int 0, .int 0, .int 0, .int 0, .int 0, .int 0, .int 0, .int 0, .int 0, .int 0, .null, .int 0]))]
set_option maxHeartbeats 4000000 in
set_option maxRecDepth 100000 in
theorem c_X_init_ (l : Launch) (D : va_G) (h0 sz : Nat) (cap : Int32) : Met l yX_init (.code yX_init cX_init 2 none :: wsA) { frames := 2, cells := 4, slots := 4201, locals := 40 } (va_Pc [.ref h0, .int cap] (fun U => U.heap.size = sz ∧ va_P D vwCl (wx0 h0) U.heap ∧ va_K D vwCl [] U ∧ va_D (fun _ => True) (wx0 h0) ∧ nw U)) (va_Qv (fun z : AX => z.1 = h0 ∧ z.2.2.2.2.2.2.2 = cl_ cap) ((fun (A : Nat → Prop) (z : AX) (t : State) => va_P D vwCl (wx z T0) t.heap ∧ va_K D vwCl (tx z) t ∧ va_D A (wx z T0)) (va_A (wx0 h0) sz)) (va_A (wx0 h0) sz)) 4 4201 (va_A (wx0 h0) sz) := by
  refine en_c (B := (fun (A : Nat → Prop) (z : AX) (t : State) => va_P D vwCl (wx z T0) t.heap ∧ va_K D vwCl (tx z) t ∧ va_D A (wx z T0))) RX rfl (by decide) (Nat.le_of_ble_eq_true rfl) ?_
  intro p e s m below meth c A ls S hr hk hin hA hN hK hP hD hS hl
  have hts := S.2.2.2.2
  have hl : lv_has ls 2 [(0, .ref h0), (1, .int cap)] := hl
  have hP : va_P D vwCl [(h0, .inr (0, [.null, .null, .null, .int 0, .int 0, .int 0, .int 0, .int 0, .int 0, .int 0, .int 0, .int 0, .int 0, .int 0, .int 0, .int 0, .int 0]))] s.heap := hP
  have hD : va_D A [(h0, .inr (0, [.null, .null, .null, .int 0, .int 0, .int 0, .int 0, .int 0, .int 0, .int 0, .int 0, .int 0, .int 0, .int 0, .int 0, .int 0, .int 0]))] := hD
  refine lv_aload_n S.1 S.2.1 dX_init_0 rfl (lv_at hl 0 rfl) ?_
  refine W.objInit S.1 S.2.1 S.2.2.2.1 (hts _ wo_oX) (hts _ wo_oi) (hts _ wo_oc) rfl (by rw [S.2.2.1]; exact hl.1) rfl dX_init_1 (Nat.le_of_ble_eq_true rfl) (Nat.le_of_ble_eq_true rfl) ?_
  refine W.eq (g2 := F0 m 4 ls []) rfl ?_
  refine lv_aload_n S.1 S.2.1 dX_init_4 rfl (lv_at hl 0 rfl) ?_
  refine lv_sipush (v := 4096) S.1 S.2.1 dX_init_5 (by decide) ?_
  refine va_newa (atype := .int) (a0 := (4096, .inl (fun _ => 0))) (N' := 4096) S.1 S.2.1 (hts _ wc_ac_I) rfl hK hP hD hS hA (fun _ => rfl) (by decide) (by decide) (by decide) (Nat.le_of_ble_eq_true rfl) (Nat.le_of_ble_eq_true rfl) dX_init_8 (fun q1 cA H hK hP hD hS => ?_)
  have hK : va_K D vwCl [(cA, .int)] s := hK
  have hP : va_P D vwCl [(h0, .inr (0, [.null, .null, .null, .int 0, .int 0, .int 0, .int 0, .int 0, .int 0, .int 0, .int 0, .int 0, .int 0, .int 0, .int 0, .int 0, .int 0])), (q1, .inl (cA, 4096, .inl (fun _ => 0)))] H := hP
  have hD : va_D A [(h0, .inr (0, [.null, .null, .null, .int 0, .int 0, .int 0, .int 0, .int 0, .int 0, .int 0, .int 0, .int 0, .int 0, .int 0, .int 0, .int 0, .int 0])), (q1, .inl (cA, 4096, .inl (fun _ => 0)))] := hD
  refine va_putF (D := D) (ci := 0) (v := .ref q1) (ty := .array .int) (C := RX) (T := TX) (N := 17) S.1 S.2.1 hts inAX tyX tyX_ok nmX S.2.2.2.1 hK hP hD hS 0 rfl rfl 0 (by decide) (hts _ fl_X_X_core) (fun _ h9 => h9) rfl hin rfl (by decide +kernel) rfl rfl (Nat.le_of_ble_eq_true rfl) dX_init_10 (fun H locs hP hD hS => ?_)
  have hP : va_P D vwCl [(h0, .inr (0, [.ref q1, .null, .null, .int 0, .int 0, .int 0, .int 0, .int 0, .int 0, .int 0, .int 0, .int 0, .int 0, .int 0, .int 0, .int 0, .int 0])), (q1, .inl (cA, 4096, .inl (fun _ => 0)))] H := hP
  have hD : va_D A [(h0, .inr (0, [.ref q1, .null, .null, .int 0, .int 0, .int 0, .int 0, .int 0, .int 0, .int 0, .int 0, .int 0, .int 0, .int 0, .int 0, .int 0, .int 0])), (q1, .inl (cA, 4096, .inl (fun _ => 0)))] := hD
  refine lv_aload_n S.1 S.2.1 dX_init_13 rfl (lv_at hl 0 rfl) ?_
  refine va_new (ci := 1) (fs := [.int 0, .int 0]) (C := RK) (T := TK) (N := 2) S.1 S.2.1 hts inAK tyK tyK_ok S.2.2.2.1 (hts _ wc_cl_XK) (hts _ wc_is_K) (hts _ wc_ini_K) hK hP hD hS hA rfl (fun j hj => by rcases (show j = 0 ∨ j = 1 by omega) with rfl | rfl <;> rfl) (Nat.le_of_ble_eq_true rfl) (Nat.le_of_ble_eq_true rfl) dX_init_14 (fun q2 H hP hD hS => ?_)
  have hP : va_P D vwCl [(h0, .inr (0, [.ref q1, .null, .null, .int 0, .int 0, .int 0, .int 0, .int 0, .int 0, .int 0, .int 0, .int 0, .int 0, .int 0, .int 0, .int 0, .int 0])), (q1, .inl (cA, 4096, .inl (fun _ => 0))), (q2, .inr (1, [.int 0, .int 0]))] H := hP
  have hD : va_D A [(h0, .inr (0, [.ref q1, .null, .null, .int 0, .int 0, .int 0, .int 0, .int 0, .int 0, .int 0, .int 0, .int 0, .int 0, .int 0, .int 0, .int 0, .int 0])), (q1, .inl (cA, 4096, .inl (fun _ => 0))), (q2, .inr (1, [.int 0, .int 0]))] := hD
  refine lv_dup S.1 S.2.1 dX_init_17 rfl ?_
  have hPc := hP.sub (ws' := wk0 q2) [2] rfl
  have hDc := hD.sub (ws' := wk0 q2) [2] (by decide) rfl
  have hKc := hK.sub (tys' := []) [] rfl
  have hFc := va_free (wc := wk0 q2) hD hS hA [2] rfl
  refine va_callv (va_runIN (As := []) (rest := [.ref q2, .ref h0]) S (c_K_init l D q2 H.size) ⟨va_cnB 0 hts (wg_c wc_co_K) rfl rfl rfl (nw_X_15 hN) (hts _ wc_ini_K) ⟨by decide, by decide, by decide +kernel⟩ ⟨Nat.le_of_ble_eq_true rfl, Nat.le_of_ble_eq_true rfl⟩, rfl, hts _ wc_im_K⟩ ⟨fun a U g mk q => by obtain ⟨q0, q1, qP, qK, qD, qN⟩ := q; exact ⟨q0, q1, qP, va_K.moved (u := U) (U := U.calling g mk a) (Vm.Alike.refl U.vm) qK, qD, nw_same rfl qN⟩, fun U hU hW => ⟨rfl, by rw [hU], by rw [hU]; exact hPc, va_K.moved hW.alike hKc, hDc.weaken (fun _ _ _ _ => trivial), nw_warm hW hN⟩⟩ rfl rfl hl.1 rfl (lv_room (Nat.le_of_ble_eq_true rfl)) dX_init_18 ⟨Nat.le_of_ble_eq_true rfl, Nat.le_of_ble_eq_true rfl⟩) hS (fun q _ h => hFc q h) hFc (fun u t H1 locs ht hvm hw hB hz1 hk1 hS => ?_)
  obtain ⟨hP1, hK1, hD1⟩ := hB
  rw [ht] at hP1
  obtain ⟨hP, hD⟩ := va_join (wr := [(h0, .inr (0, [.ref q1, .null, .null, .int 0, .int 0, .int 0, .int 0, .int 0, .int 0, .int 0, .int 0, .int 0, .int 0, .int 0, .int 0, .int 0, .int 0])), (q1, .inl (cA, 4096, .inl (fun _ => 0)))]) (w1 := wk0 q2) hP hD [2] [0, 1] rfl rfl (by decide) (by decide) hk1 hFc hP1 hD1
  generalize H1 = H at hP hS ⊢
  have hP : va_P D vwCl [(h0, .inr (0, [.ref q1, .null, .null, .int 0, .int 0, .int 0, .int 0, .int 0, .int 0, .int 0, .int 0, .int 0, .int 0, .int 0, .int 0, .int 0, .int 0])), (q1, .inl (cA, 4096, .inl (fun _ => 0))), (q2, .inr (1, [.int 0, .int 0]))] H := hP
  have hD : va_D A [(h0, .inr (0, [.ref q1, .null, .null, .int 0, .int 0, .int 0, .int 0, .int 0, .int 0, .int 0, .int 0, .int 0, .int 0, .int 0, .int 0, .int 0, .int 0])), (q1, .inl (cA, 4096, .inl (fun _ => 0))), (q2, .inr (1, [.int 0, .int 0]))] := hD
  refine va_putF (D := D) (ci := 0) (v := .ref q2) (ty := .object "MicroEight$Keyboard") (C := RX) (T := TX) (N := 17) S.1 S.2.1 hts inAX tyX tyX_ok nmX S.2.2.2.1 hK hP hD hS 0 rfl rfl 1 (by decide) (hts _ fl_X_X_keyboard) (fun _ h9 => h9) rfl hin rfl (by decide +kernel) rfl rfl (Nat.le_of_ble_eq_true rfl) dX_init_21 (fun H locs hP hD hS => ?_)
  have hP : va_P D vwCl [(h0, .inr (0, [.ref q1, .ref q2, .null, .int 0, .int 0, .int 0, .int 0, .int 0, .int 0, .int 0, .int 0, .int 0, .int 0, .int 0, .int 0, .int 0, .int 0])), (q1, .inl (cA, 4096, .inl (fun _ => 0))), (q2, .inr (1, [.int 0, .int 0]))] H := hP
  have hD : va_D A [(h0, .inr (0, [.ref q1, .ref q2, .null, .int 0, .int 0, .int 0, .int 0, .int 0, .int 0, .int 0, .int 0, .int 0, .int 0, .int 0, .int 0, .int 0, .int 0])), (q1, .inl (cA, 4096, .inl (fun _ => 0))), (q2, .inr (1, [.int 0, .int 0]))] := hD
  refine lv_aload_n S.1 S.2.1 dX_init_24 rfl (lv_at hl 0 rfl) ?_
  refine va_new (ci := 2) (fs := [.null, .int 0, .int 0]) (C := RP) (T := TP) (N := 3) S.1 S.2.1 hts inAP tyP tyP_ok S.2.2.2.1 (hts _ wc_cl_XP) (hts _ wc_is_P) (hts _ wc_ini_P) hK hP hD hS hA rfl (fun j hj => by rcases (show j = 0 ∨ j = 1 ∨ j = 2 by omega) with rfl | rfl | rfl <;> rfl) (Nat.le_of_ble_eq_true rfl) (Nat.le_of_ble_eq_true rfl) dX_init_25 (fun q3 H hP hD hS => ?_)
  have hP : va_P D vwCl [(h0, .inr (0, [.ref q1, .ref q2, .null, .int 0, .int 0, .int 0, .int 0, .int 0, .int 0, .int 0, .int 0, .int 0, .int 0, .int 0, .int 0, .int 0, .int 0])), (q1, .inl (cA, 4096, .inl (fun _ => 0))), (q2, .inr (1, [.int 0, .int 0])), (q3, .inr (2, [.null, .int 0, .int 0]))] H := hP
  have hD : va_D A [(h0, .inr (0, [.ref q1, .ref q2, .null, .int 0, .int 0, .int 0, .int 0, .int 0, .int 0, .int 0, .int 0, .int 0, .int 0, .int 0, .int 0, .int 0, .int 0])), (q1, .inl (cA, 4096, .inl (fun _ => 0))), (q2, .inr (1, [.int 0, .int 0])), (q3, .inr (2, [.null, .int 0, .int 0]))] := hD
  refine lv_dup S.1 S.2.1 dX_init_28 rfl ?_
  refine lv_iconst (v := 0) S.1 S.2.1 dX_init_29 (by decide) ?_
  refine lv_bipush (v := 100) S.1 S.2.1 dX_init_30 (by decide) ?_
  refine lv_iload_n S.1 S.2.1 dX_init_32 rfl (lv_at hl 1 rfl) ?_
  refine va_mmin S.1 S.2.1 (by rw [S.2.2.1]; exact hl.1.symm) S.2.2.2.1 (hts _ wc_ml_mi) (hts _ wc_sm_mi) (hts _ wc_ini_J) (hts _ wc_co_mi) (Nat.le_of_ble_eq_true rfl) (Nat.le_of_ble_eq_true rfl) (Nat.le_of_ble_eq_true rfl) (Nat.le_of_ble_eq_true rfl) dX_init_33 ?_
  refine va_mmax S.1 S.2.1 (by rw [S.2.2.1]; exact hl.1.symm) S.2.2.2.1 (hts _ wc_ml_ma) (hts _ wc_sm_ma) (hts _ wc_ini_J) (hts _ wc_co_ma) (Nat.le_of_ble_eq_true rfl) (Nat.le_of_ble_eq_true rfl) (Nat.le_of_ble_eq_true rfl) (Nat.le_of_ble_eq_true rfl) dX_init_36 ?_
  rw [cl_X cap]
  have hPc := hP.sub (ws' := wp0 q3) [3] rfl
  have hDc := hD.sub (ws' := wp0 q3) [3] (by decide) rfl
  have hKc := hK.sub (tys' := []) [] rfl
  have hFc := va_free (wc := wp0 q3) hD hS hA [3] rfl
  refine va_callv (va_runIN (As := [.int (nI (cl_ cap))]) (rest := [.ref q3, .ref h0]) S (c_P_init l D q3 H.size (cl_ cap) (cl_le cap)) ⟨va_cnB 1 hts (wg_c wc_co_P) rfl rfl rfl (nw_X_31 hN) (hts _ wc_ini_P) ⟨by decide, by decide, by decide +kernel⟩ ⟨Nat.le_of_ble_eq_true rfl, Nat.le_of_ble_eq_true rfl⟩, rfl, hts _ wc_im_P⟩ ⟨fun a U g mk q => by obtain ⟨q0, q1, qP, qK, qD, qN⟩ := q; exact ⟨q0, q1, qP, va_K.moved (u := U) (U := U.calling g mk a) (Vm.Alike.refl U.vm) qK, qD, nw_same rfl qN⟩, fun U hU hW => ⟨rfl, by rw [hU], by rw [hU]; exact hPc, va_K.moved hW.alike hKc, hDc.weaken (fun _ _ _ _ => trivial), nw_warm hW hN⟩⟩ rfl rfl hl.1 rfl (lv_room (Nat.le_of_ble_eq_true rfl)) dX_init_39 ⟨Nat.le_of_ble_eq_true rfl, Nat.le_of_ble_eq_true rfl⟩) hS (fun q _ h => hFc q h) hFc (fun u t H1 locs ht hvm hw hB hz1 hk1 hS => ?_)
  obtain ⟨q4, cB⟩ := u
  obtain ⟨hP1, hK1, hD1⟩ := hB
  rw [ht] at hP1
  have hK1 := va_K.moved hvm.symm hK1
  obtain ⟨hP, hD⟩ := va_join (wr := [(h0, .inr (0, [.ref q1, .ref q2, .null, .int 0, .int 0, .int 0, .int 0, .int 0, .int 0, .int 0, .int 0, .int 0, .int 0, .int 0, .int 0, .int 0, .int 0])), (q1, .inl (cA, 4096, .inl (fun _ => 0))), (q2, .inr (1, [.int 0, .int 0]))]) (w1 := wp1 q3 q4 cB (cl_ cap)) hP hD [3] [0, 1, 2] rfl rfl (by decide) (by decide) hk1 hFc hP1 hD1
  have hK := hK.app hK1
  have hK : va_K D vwCl [(cA, .int), (cB, .int)] s := hK
  generalize H1 = H at hP hS ⊢
  have hP : va_P D vwCl [(h0, .inr (0, [.ref q1, .ref q2, .null, .int 0, .int 0, .int 0, .int 0, .int 0, .int 0, .int 0, .int 0, .int 0, .int 0, .int 0, .int 0, .int 0, .int 0])), (q1, .inl (cA, 4096, .inl (fun _ => 0))), (q2, .inr (1, [.int 0, .int 0])), (q3, .inr (2, [.ref q4, .int 0, .int 0])), (q4, .inl (cB, cl_ cap, .inl (fun _ => 0)))] H := hP
  have hD : va_D A [(h0, .inr (0, [.ref q1, .ref q2, .null, .int 0, .int 0, .int 0, .int 0, .int 0, .int 0, .int 0, .int 0, .int 0, .int 0, .int 0, .int 0, .int 0, .int 0])), (q1, .inl (cA, 4096, .inl (fun _ => 0))), (q2, .inr (1, [.int 0, .int 0])), (q3, .inr (2, [.ref q4, .int 0, .int 0])), (q4, .inl (cB, cl_ cap, .inl (fun _ => 0)))] := hD
  refine va_putF (D := D) (ci := 0) (v := .ref q3) (ty := .object "MicroEight$Printer") (C := RX) (T := TX) (N := 17) S.1 S.2.1 hts inAX tyX tyX_ok nmX S.2.2.2.1 hK hP hD hS 0 rfl rfl 2 (by decide) (hts _ fl_X_X_printer) (fun _ h9 => h9) rfl hin rfl (by decide +kernel) rfl rfl (Nat.le_of_ble_eq_true rfl) dX_init_42 (fun H locs hP hD hS => ?_)
  have hP : va_P D vwCl (wx (h0, q1, q2, q3, q4, cA, cB, cl_ cap) T0) H := hP
  have hD : va_D A (wx (h0, q1, q2, q3, q4, cA, cB, cl_ cap) T0) := hD
  refine W.widen (k := 4) (n := 4201) (Nat.le_of_ble_eq_true rfl) (Nat.le_of_ble_eq_true rfl) ?_
  exact W.vret S.1 S.2.1 hr (fun t ht hW => ⟨⟨(h0, q1, q2, q3, q4, cA, cB, cl_ cap), rfl, ⟨rfl, rfl⟩, by rw [ht]; exact hP, va_K.moved hW.alike hK, hD⟩, hS.F ht⟩) hS.2.2 dX_init_45 hk
set_option maxHeartbeats 4000000 in
set_option maxRecDepth 100000 in
theorem c_M_init_ (l : Launch) (D : va_G) (h0 sz : Nat) (cap : Int32) : Met l yM_init (.code yM_init cM_init 2 none :: wsA) { frames := 1, cells := 2, slots := 4196, locals := 12 } (va_Pc [.ref h0, .int cap] (fun U => U.heap.size = sz ∧ va_P D vwCl (wm0 h0) U.heap ∧ va_K D vwCl [] U ∧ va_D (fun _ => True) (wm0 h0) ∧ nw U)) (va_Qv (fun z : AR => z.1 = h0 ∧ z.2.2.2.2.2 = cl_ cap) ((fun (A : Nat → Prop) (z : AR) (t : State) => va_P D vwCl (wr z T0) t.heap ∧ va_K D vwCl (tr z) t ∧ va_D A (wr z T0)) (va_A (wm0 h0) sz)) (va_A (wm0 h0) sz)) 2 4196 (va_A (wm0 h0) sz) := by
  refine en_c (B := (fun (A : Nat → Prop) (z : AR) (t : State) => va_P D vwCl (wr z T0) t.heap ∧ va_K D vwCl (tr z) t ∧ va_D A (wr z T0))) RM rfl (by decide) (Nat.le_of_ble_eq_true rfl) ?_
  intro p e s m below meth c A ls S hr hk hin hA hN hK hP hD hS hl
  have hts := S.2.2.2.2
  have hl : lv_has ls 2 [(0, .ref h0), (1, .int cap)] := hl
  have hP : va_P D vwCl [(h0, .inr (3, [.null, .int 0, .int 0, .int 0, .int 0, .int 0, .int 0, .int 0, .int 0, .int 0, .int 0, .int 0, .int 0, .int 0, .int 0, .int 0, .int 0, .int 0, .int 0, .null, .int 0]))] s.heap := hP
  have hD : va_D A [(h0, .inr (3, [.null, .int 0, .int 0, .int 0, .int 0, .int 0, .int 0, .int 0, .int 0, .int 0, .int 0, .int 0, .int 0, .int 0, .int 0, .int 0, .int 0, .int 0, .int 0, .null, .int 0]))] := hD
  refine lv_aload_n S.1 S.2.1 dM_init_0 rfl (lv_at hl 0 rfl) ?_
  refine W.objInit S.1 S.2.1 S.2.2.2.1 (hts _ wo_oM) (hts _ wo_oi) (hts _ wo_oc) rfl (by rw [S.2.2.1]; exact hl.1) rfl dM_init_1 (Nat.le_of_ble_eq_true rfl) (Nat.le_of_ble_eq_true rfl) ?_
  refine W.eq (g2 := F0 m 4 ls []) rfl ?_
  refine lv_aload_n S.1 S.2.1 dM_init_4 rfl (lv_at hl 0 rfl) ?_
  refine lv_sipush (v := 4096) S.1 S.2.1 dM_init_5 (by decide) ?_
  refine va_newa (atype := .int) (a0 := (4096, .inl (fun _ => 0))) (N' := 4096) S.1 S.2.1 (hts _ wc_ac_I) rfl hK hP hD hS hA (fun _ => rfl) (by decide) (by decide) (by decide) (Nat.le_of_ble_eq_true rfl) (Nat.le_of_ble_eq_true rfl) dM_init_8 (fun q1 cA H hK hP hD hS => ?_)
  have hK : va_K D vwCl [(cA, .int)] s := hK
  have hP : va_P D vwCl [(h0, .inr (3, [.null, .int 0, .int 0, .int 0, .int 0, .int 0, .int 0, .int 0, .int 0, .int 0, .int 0, .int 0, .int 0, .int 0, .int 0, .int 0, .int 0, .int 0, .int 0, .null, .int 0])), (q1, .inl (cA, 4096, .inl (fun _ => 0)))] H := hP
  have hD : va_D A [(h0, .inr (3, [.null, .int 0, .int 0, .int 0, .int 0, .int 0, .int 0, .int 0, .int 0, .int 0, .int 0, .int 0, .int 0, .int 0, .int 0, .int 0, .int 0, .int 0, .int 0, .null, .int 0])), (q1, .inl (cA, 4096, .inl (fun _ => 0)))] := hD
  refine va_put (D := D) (ci := 3) (v := .ref q1) (ty := .array .int) (C := RM) (T := TM) (N := 21) S.1 S.2.1 hts inAM tyM tyM_ok nmM S.2.2.2.1 hK hP hD hS 0 rfl rfl 0 (by decide) (hts _ fl_M_M_core) (fun _ h9 => h9) rfl (by decide +kernel) rfl rfl (Nat.le_of_ble_eq_true rfl) dM_init_10 (fun H locs hP hD hS => ?_)
  have hP : va_P D vwCl [(h0, .inr (3, [.ref q1, .int 0, .int 0, .int 0, .int 0, .int 0, .int 0, .int 0, .int 0, .int 0, .int 0, .int 0, .int 0, .int 0, .int 0, .int 0, .int 0, .int 0, .int 0, .null, .int 0])), (q1, .inl (cA, 4096, .inl (fun _ => 0)))] H := hP
  have hD : va_D A [(h0, .inr (3, [.ref q1, .int 0, .int 0, .int 0, .int 0, .int 0, .int 0, .int 0, .int 0, .int 0, .int 0, .int 0, .int 0, .int 0, .int 0, .int 0, .int 0, .int 0, .int 0, .null, .int 0])), (q1, .inl (cA, 4096, .inl (fun _ => 0)))] := hD
  refine lv_aload_n S.1 S.2.1 dM_init_13 rfl (lv_at hl 0 rfl) ?_
  refine lv_bipush (v := 100) S.1 S.2.1 dM_init_14 (by decide) ?_
  refine va_newa (atype := .int) (a0 := (100, .inl (fun _ => 0))) (N' := 100) S.1 S.2.1 (hts _ wc_ac_I) rfl hK hP hD hS hA (fun _ => rfl) (by decide) (by decide) (by decide) (Nat.le_of_ble_eq_true rfl) (Nat.le_of_ble_eq_true rfl) dM_init_16 (fun q2 cB H hK hP hD hS => ?_)
  have hK : va_K D vwCl [(cA, .int), (cB, .int)] s := hK
  have hP : va_P D vwCl [(h0, .inr (3, [.ref q1, .int 0, .int 0, .int 0, .int 0, .int 0, .int 0, .int 0, .int 0, .int 0, .int 0, .int 0, .int 0, .int 0, .int 0, .int 0, .int 0, .int 0, .int 0, .null, .int 0])), (q1, .inl (cA, 4096, .inl (fun _ => 0))), (q2, .inl (cB, 100, .inl (fun _ => 0)))] H := hP
  have hD : va_D A [(h0, .inr (3, [.ref q1, .int 0, .int 0, .int 0, .int 0, .int 0, .int 0, .int 0, .int 0, .int 0, .int 0, .int 0, .int 0, .int 0, .int 0, .int 0, .int 0, .int 0, .int 0, .null, .int 0])), (q1, .inl (cA, 4096, .inl (fun _ => 0))), (q2, .inl (cB, 100, .inl (fun _ => 0)))] := hD
  refine va_put (D := D) (ci := 3) (v := .ref q2) (ty := .array .int) (C := RM) (T := TM) (N := 21) S.1 S.2.1 hts inAM tyM tyM_ok nmM S.2.2.2.1 hK hP hD hS 0 rfl rfl 19 (by decide) (hts _ fl_M_M_print) (fun _ h9 => h9) rfl (by decide +kernel) rfl rfl (Nat.le_of_ble_eq_true rfl) dM_init_18 (fun H locs hP hD hS => ?_)
  have hP : va_P D vwCl [(h0, .inr (3, [.ref q1, .int 0, .int 0, .int 0, .int 0, .int 0, .int 0, .int 0, .int 0, .int 0, .int 0, .int 0, .int 0, .int 0, .int 0, .int 0, .int 0, .int 0, .int 0, .ref q2, .int 0])), (q1, .inl (cA, 4096, .inl (fun _ => 0))), (q2, .inl (cB, 100, .inl (fun _ => 0)))] H := hP
  have hD : va_D A [(h0, .inr (3, [.ref q1, .int 0, .int 0, .int 0, .int 0, .int 0, .int 0, .int 0, .int 0, .int 0, .int 0, .int 0, .int 0, .int 0, .int 0, .int 0, .int 0, .int 0, .int 0, .ref q2, .int 0])), (q1, .inl (cA, 4096, .inl (fun _ => 0))), (q2, .inl (cB, 100, .inl (fun _ => 0)))] := hD
  refine lv_aload_n S.1 S.2.1 dM_init_21 rfl (lv_at hl 0 rfl) ?_
  refine lv_iload_n S.1 S.2.1 dM_init_22 rfl (lv_at hl 1 rfl) ?_
  refine lv_if_ge (tgt := 30) S.1 S.2.1 dM_init_23 (by decide) (fun g1 => ?_) (fun g1 => ?_)
  · have g0 : ¬ cap < 0 := Int32.not_lt.mpr g1
    refine lv_iload_n S.1 S.2.1 dM_init_30 rfl (lv_at hl 1 rfl) ?_
    refine lv_bipush (v := 100) S.1 S.2.1 dM_init_31 (by decide) ?_
    refine lv_icmp_le (tgt := 41) S.1 S.2.1 dM_init_33 (by decide) (fun g2 => ?_) (fun g2 => ?_)
    · refine lv_iload_n S.1 S.2.1 dM_init_41 rfl (lv_at hl 1 rfl) ?_
      refine lv_topi (fun v hv => ?_)
      have hv : v = nI (cl_ cap) := hv.trans (cl_mi g0 (Int32.not_lt.mpr g2)).symm
      subst hv
      refine va_put (D := D) (ci := 3) (v := .int (nI (cl_ cap))) (ty := .int) (C := RM) (T := TM) (N := 21) S.1 S.2.1 hts inAM tyM tyM_ok nmM S.2.2.2.1 hK hP hD hS 0 rfl rfl 1 (by decide) (hts _ fl_M_M_cap) (fun _ h9 => h9) rfl (by decide +kernel) rfl rfl (Nat.le_of_ble_eq_true rfl) dM_init_42 (fun H locs hP hD hS => ?_)
      have hP : va_P D vwCl (wr (h0, q1, q2, cA, cB, cl_ cap) T0) H := hP
      have hD : va_D A (wr (h0, q1, q2, cA, cB, cl_ cap) T0) := hD
      refine W.widen (k := 2) (n := 4196) (Nat.le_of_ble_eq_true rfl) (Nat.le_of_ble_eq_true rfl) ?_
      exact W.vret S.1 S.2.1 hr (fun t ht hW => ⟨⟨(h0, q1, q2, cA, cB, cl_ cap), rfl, ⟨rfl, rfl⟩, by rw [ht]; exact hP, va_K.moved hW.alike hK, hD⟩, hS.F ht⟩) hS.2.2 dM_init_45 hk
    · refine lv_bipush (v := 100) S.1 S.2.1 dM_init_36 (by decide) ?_
      refine lv_goto (tgt := 42) S.1 S.2.1 dM_init_38 (by decide) ?_
      refine lv_topi (fun v hv => ?_)
      have hv : v = nI (cl_ cap) := hv.trans (cl_hi g0 (Int32.not_le.mp g2)).symm
      subst hv
      refine va_put (D := D) (ci := 3) (v := .int (nI (cl_ cap))) (ty := .int) (C := RM) (T := TM) (N := 21) S.1 S.2.1 hts inAM tyM tyM_ok nmM S.2.2.2.1 hK hP hD hS 0 rfl rfl 1 (by decide) (hts _ fl_M_M_cap) (fun _ h9 => h9) rfl (by decide +kernel) rfl rfl (Nat.le_of_ble_eq_true rfl) dM_init_42 (fun H locs hP hD hS => ?_)
      have hP : va_P D vwCl (wr (h0, q1, q2, cA, cB, cl_ cap) T0) H := hP
      have hD : va_D A (wr (h0, q1, q2, cA, cB, cl_ cap) T0) := hD
      refine W.widen (k := 2) (n := 4196) (Nat.le_of_ble_eq_true rfl) (Nat.le_of_ble_eq_true rfl) ?_
      exact W.vret S.1 S.2.1 hr (fun t ht hW => ⟨⟨(h0, q1, q2, cA, cB, cl_ cap), rfl, ⟨rfl, rfl⟩, by rw [ht]; exact hP, va_K.moved hW.alike hK, hD⟩, hS.F ht⟩) hS.2.2 dM_init_45 hk
  · refine lv_iconst (v := 0) S.1 S.2.1 dM_init_26 (by decide) ?_
    refine lv_goto (tgt := 42) S.1 S.2.1 dM_init_27 (by decide) ?_
    refine lv_topi (fun v hv => ?_)
    have hv : v = nI (cl_ cap) := hv.trans (cl_lo (Int32.not_le.mp g1)).symm
    subst hv
    refine va_put (D := D) (ci := 3) (v := .int (nI (cl_ cap))) (ty := .int) (C := RM) (T := TM) (N := 21) S.1 S.2.1 hts inAM tyM tyM_ok nmM S.2.2.2.1 hK hP hD hS 0 rfl rfl 1 (by decide) (hts _ fl_M_M_cap) (fun _ h9 => h9) rfl (by decide +kernel) rfl rfl (Nat.le_of_ble_eq_true rfl) dM_init_42 (fun H locs hP hD hS => ?_)
    have hP : va_P D vwCl (wr (h0, q1, q2, cA, cB, cl_ cap) T0) H := hP
    have hD : va_D A (wr (h0, q1, q2, cA, cB, cl_ cap) T0) := hD
    refine W.widen (k := 2) (n := 4196) (Nat.le_of_ble_eq_true rfl) (Nat.le_of_ble_eq_true rfl) ?_
    exact W.vret S.1 S.2.1 hr (fun t ht hW => ⟨⟨(h0, q1, q2, cA, cB, cl_ cap), rfl, ⟨rfl, rfl⟩, by rw [ht]; exact hP, va_K.moved hW.alike hK, hD⟩, hS.F ht⟩) hS.2.2 dM_init_45 hk

