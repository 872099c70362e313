theorem wo_oi : Cond.instanceMethod objectInit ∈ wsA := (wm_1 (i := 12) rfl rfl)
theorem wo_oc : Cond.code objectInit ⟨#[0xb1]⟩ 1 none ∈ wsA := (wm_1 (i := 13) rfl rfl)
set_option maxRecDepth 20000 in
theorem wo_oK : Cond.methodLink RK 1 objectInit ∈ wsA := (wm_1 (i := 19) rfl rfl)
set_option maxRecDepth 20000 in
theorem wo_oP : Cond.methodLink RP 3 objectInit ∈ wsA := (wm_1 (i := 41) rfl rfl)
set_option maxRecDepth 20000 in
theorem wo_oX : Cond.methodLink RX 1 objectInit ∈ wsA := (wm_1 (i := 11) rfl rfl)
set_option maxRecDepth 20000 in
theorem wo_oM : Cond.methodLink RM 1 objectInit ∈ wsA := (wm_2 (i := 128) rfl rfl)
set_option maxRecDepth 20000 in
theorem wc_cl_XK : Cond.classLink RX 13 RK ∈ wsA := (wm_1 (i := 14) rfl rfl)
set_option maxRecDepth 20000 in
theorem wc_cl_XP : Cond.classLink RX 20 RP ∈ wsA := (wm_1 (i := 30) rfl rfl)
set_option maxRecDepth 20000 in
theorem wc_cl_LX : Cond.classLink RL 7 RX ∈ wsA := (wm_1 (i := 6) rfl rfl)
set_option maxRecDepth 20000 in
theorem wc_cl_LM : Cond.classLink RL 18 RM ∈ wsA := (wm_2 (i := 123) rfl rfl)
set_option maxRecDepth 20000 in
theorem wc_is_K : Cond.instantiable RK 2 ∈ wsA := (wm_1 (i := 15) rfl rfl)
set_option maxRecDepth 20000 in
theorem wc_is_P : Cond.instantiable RP 3 ∈ wsA := (wm_1 (i := 31) rfl rfl)
set_option maxRecDepth 20000 in
theorem wc_is_X : Cond.instantiable RX 17 ∈ wsA := (wm_1 (i := 7) rfl rfl)
set_option maxRecDepth 20000 in
theorem wc_is_M : Cond.instantiable RM 21 ∈ wsA := (wm_2 (i := 124) rfl rfl)
set_option maxRecDepth 20000 in
theorem wc_ini_K : Cond.initialized RK ∈ wsA := (wm_1 (i := 2) rfl rfl)
set_option maxRecDepth 20000 in
theorem wc_ini_P : Cond.initialized RP ∈ wsA := (wm_1 (i := 3) rfl rfl)
set_option maxRecDepth 20000 in
theorem wc_ini_X : Cond.initialized RX ∈ wsA := (wm_1 (i := 1) rfl rfl)
set_option maxRecDepth 20000 in
theorem wc_ini_M : Cond.initialized RM ∈ wsA := (wm_1 (i := 5) rfl rfl)
set_option maxRecDepth 20000 in
theorem wc_ini_J : Cond.initialized "java/lang/Math" ∈ wsA := (wm_1 (i := 4) rfl rfl)
set_option maxRecDepth 20000 in
theorem wc_ini_L : Cond.initialized RL ∈ wsA := (wm_1 (i := 0) rfl rfl)
set_option maxRecDepth 20000 in
theorem wc_ac_I : Cond.arrayClass .int ∈ wsA := (wm_1 (i := 29) rfl rfl)
set_option maxRecDepth 20000 in
theorem wc_im_K : Cond.instanceMethod yK_init ∈ wsA := (wm_1 (i := 17) rfl rfl)
set_option maxRecDepth 20000 in
theorem wc_im_P : Cond.instanceMethod yP_init ∈ wsA := (wm_1 (i := 39) rfl rfl)
set_option maxRecDepth 20000 in
theorem wc_im_X : Cond.instanceMethod yX_init ∈ wsA := (wm_1 (i := 9) rfl rfl)
set_option maxRecDepth 20000 in
theorem wc_im_M : Cond.instanceMethod yM_init ∈ wsA := (wm_2 (i := 126) rfl rfl)
set_option maxRecDepth 20000 in
theorem wc_co_K : Cond.code yK_init cK_init 1 none ∈ wsA := (wm_1 (i := 18) rfl rfl)
set_option maxRecDepth 20000 in
theorem wc_co_P : Cond.code yP_init cP_init 2 none ∈ wsA := (wm_1 (i := 40) rfl rfl)
set_option maxRecDepth 20000 in
theorem wc_co_X : Cond.code yX_init cX_init 2 none ∈ wsA := (wm_1 (i := 10) rfl rfl)
set_option maxRecDepth 20000 in
theorem wc_co_M : Cond.code yM_init cM_init 2 none ∈ wsA := (wm_2 (i := 127) rfl rfl)
set_option maxRecDepth 20000 in
theorem wc_co_C : Cond.code yL_cell cL_cell 2 (some .int) ∈ wsA := (wm_2 (i := 122) rfl rfl)
set_option maxRecDepth 20000 in
theorem wc_ml_LX : Cond.methodLink RL 15 yX_init ∈ wsA := (wm_1 (i := 8) rfl rfl)
set_option maxRecDepth 20000 in
theorem wc_ml_LM : Cond.methodLink RL 20 yM_init ∈ wsA := (wm_2 (i := 125) rfl rfl)
set_option maxRecDepth 20000 in
theorem wc_ml_LC : Cond.methodLink RL 9 yL_cell ∈ wsA := (wm_2 (i := 120) rfl rfl)
set_option maxRecDepth 20000 in
theorem wc_sm_C : Cond.static yL_cell ∈ wsA := (wm_2 (i := 121) rfl rfl)
set_option maxRecDepth 20000 in
theorem wc_ml_mi : Cond.methodLink RX 22 Lib.Math.min.name ∈ wsA := (wm_1 (i := 32) rfl rfl)
set_option maxRecDepth 20000 in
theorem wc_ml_ma : Cond.methodLink RX 28 Lib.Math.max.name ∈ wsA := (wm_1 (i := 35) rfl rfl)
set_option maxRecDepth 20000 in
theorem wc_sm_mi : Cond.static Lib.Math.min.name ∈ wsA := (wm_1 (i := 33) rfl rfl)
set_option maxRecDepth 20000 in
theorem wc_sm_ma : Cond.static Lib.Math.max.name ∈ wsA := (wm_1 (i := 36) rfl rfl)
set_option maxRecDepth 20000 in
theorem wc_co_mi : Cond.code Lib.Math.min.name Lib.Math.min.code 2 (some .int) ∈ wsA := (wm_1 (i := 34) rfl rfl)
set_option maxRecDepth 20000 in
theorem wc_co_ma : Cond.code Lib.Math.max.name Lib.Math.max.code 2 (some .int) ∈ wsA := (wm_1 (i := 37) rfl rfl)
abbrev T0 : St := (0, 0, 0, 0, 0, 0, 0, 0, 0, 0, 0, 0, 0, 0, 0, 0, 0, 0, (fun _ => 0), (fun _ => 0))
def cl_ (x : Int32) : Nat := if x < 0 then 0 else if 100 < x then 100 else x.toNatClampNeg
theorem cl_le (x : Int32) : cl_ x ≤ 100 := by
  unfold cl_
  by_cases h : x < 0
  · rw [if_pos h]; omega
  rw [if_neg h]
  by_cases h2 : 100 < x
  · rw [if_pos h2]; omega
  rw [if_neg h2]
  obtain ⟨j, hj, rfl⟩ := nI_of2 (M := 100) (n := 100) (by decide +kernel) h (Int32.not_lt.mp h2)
  rw [nI_clamp (by omega)]
  exact hj
theorem cl_lo {x : Int32} (h : x < 0) : nI (cl_ x) = 0 := by
  rw [cl_, if_pos h]; rfl
theorem cl_hi {x : Int32} (h : ¬ x < 0) (h2 : 100 < x) : nI (cl_ x) = 100 := by
  rw [cl_, if_neg h, if_pos h2]; rfl
theorem cl_mi {x : Int32} (h : ¬ x < 0) (h2 : ¬ 100 < x) : nI (cl_ x) = x := by
  rw [cl_, if_neg h, if_neg h2]
  obtain ⟨j, hj, rfl⟩ := nI_of2 (M := 100) (n := 100) (by decide +kernel) h (Int32.not_lt.mp h2)
  rw [nI_clamp (by omega)]
theorem cl_X (x : Int32) : (if (0 : Int32) < (if x < 100 then x else 100) then (if x < 100 then x else 100) else 0) = nI (cl_ x) := by
  by_cases h : x < 0
  · rw [cl_lo h, if_pos (Int32.lt_trans h (by decide))]
    exact if_neg (fun z => Int32.lt_irrefl (Int32.lt_trans z h))
  by_cases h2 : 100 < x
  · rw [cl_hi h h2, if_neg (fun z => Int32.lt_irrefl (Int32.lt_trans z h2))]; decide
  rw [cl_mi h h2]
  by_cases h3 : x < 100
  · rw [if_pos h3]
    by_cases h4 : 0 < x
    · exact if_pos h4
    · rw [if_neg h4]
      exact Int32.le_antisymm (Int32.not_lt.mp h) (Int32.not_lt.mp h4)
  · rw [if_neg h3, if_pos (by decide)]
    exact Int32.le_antisymm (Int32.not_lt.mp h3) (Int32.not_lt.mp h2)
theorem en_c {l : Launch} {D : va_G} {w0 : va_W} {sz : Nat} {y : MethodName} {cc : ByteArray} {mL : Nat} {rm : Room} {av : List Value} {Z : Type} {post : Z → Prop} {B : (Nat → Prop) → Z → State → Prop} {mc ms : Nat} (own : String) (ho : y.cls = own) (hy : plainName y.cls = true) (hn : (lg_sl av).length ≤ mL)
    (body : ∀ (p : Program) (e : Env) (s : State) (m : MethodId) (below : List Frame) (meth : Method) (c : Code) (A : Nat → Prop) (ls : Array Slot), CallFix p m c cc mL s av.toArray wsA own → meth.sig.returnType = none → meth.locks = false → meth.name = y.name → (∀ q, s.heap.size ≤ q → A q) → nw s → va_K D vwCl [] s → va_P D vwCl w0 s.heap → va_D A w0 → va_S A s.heap s.heap [] → lv_has ls mL (lv_args 0 av) →
      W p l e rm s m av.toArray below meth c s.heap [] 0 0 (MQ below (va_Qv post (B A) A) av.toArray s mc ms A) (F0 m 0 ls [])) : Met l y (.code y cc mL none :: wsA) rm (va_Pc av (fun U => U.heap.size = sz ∧ va_P D vwCl w0 U.heap ∧ va_K D vwCl [] U ∧ va_D (fun _ => True) w0 ∧ nw U)) (va_Qv post (B (va_A w0 sz)) (va_A w0 sz)) mc ms (va_A w0 sz) := by
  refine Met.ofW (cc := cc) (maxL := mL) (ret := none) hy rfl ?_
  intro p e s m args below meth c s₁ B hml hv
  obtain ⟨rfl, hsz, hP, hK, hD0, hN⟩ := hv
  have hts := atoms_spec (ws := .code y cc mL none :: wsA) B.pre
  have hown : s.vm.findClass own = some m.cls := ho ▸ findClass_of_methodNamed B.named
  have hin : meth.name = y.name := (name_of_methodNamed B.named B.method).1
  subst hsz
  have hD := hD0.self (sz := s.heap.size)
  rw [lg_entry_eq]
  exact body p e s m below meth c (va_A w0 s.heap.size) _ ⟨B.exec, B.bytes, hml, hown, fun w h => hts w (List.mem_cons_of_mem _ h)⟩ B.returns B.notSynchronized hin (fun q h => Or.inr h) hN hK hP hD va_S.rf (lv_entry av hn)
def wk0 (h : Nat) : va_W := [(h, .inr (1, [.int 0, .int 0]))]
def wp0 (h : Nat) : va_W := [(h, .inr (2, [.null, .int 0, .int 0]))]
def wp1 (h q : Nat) (cB : ClassId) (n : Nat) : va_W := [(h, .inr (2, [.ref q, .int 0, .int 0])), (q, .inl (cB, n, .inl (fun _ => 0)))]
set_option maxHeartbeats 4000000 in
set_option maxRecDepth 100000 in
theorem c_K_init (l : Launch) (D : va_G) (h0 sz : Nat) : Met l yK_init (.code yK_init cK_init 1 none :: wsA) { frames := 1, cells := 0, slots := 0, locals := 12 } (va_Pc [.ref h0] (fun U => U.heap.size = sz ∧ va_P D vwCl (wk0 h0) U.heap ∧ va_K D vwCl [] U ∧ va_D (fun _ => True) (wk0 h0) ∧ nw U)) (va_Qv (fun _ : Unit => True) ((fun A _ t => va_P D vwCl (wk0 h0) t.heap ∧ va_K D vwCl [] t ∧ va_D A (wk0 h0)) (va_A (wk0 h0) sz)) (va_A (wk0 h0) sz)) 0 0 (va_A (wk0 h0) sz) := by
  refine en_c (B := fun A _ t => va_P D vwCl (wk0 h0) t.heap ∧ va_K D vwCl [] t ∧ va_D A (wk0 h0)) RK rfl (by decide) (Nat.le_of_ble_eq_true rfl) ?_
  intro p e s m below meth c A ls S hr hk hin hA hN hK hP hD hS hl
  have hts := S.2.2.2.2
  have hl : lv_has ls 1 [(0, .ref h0)] := hl
  refine lv_aload_n S.1 S.2.1 dK_init_0 rfl (lv_at hl 0 rfl) ?_
  refine W.objInit S.1 S.2.1 S.2.2.2.1 (hts _ wo_oK) (hts _ wo_oi) (hts _ wo_oc) rfl (by rw [S.2.2.1]; exact hl.1) rfl dK_init_1 (Nat.le_of_ble_eq_true rfl) (Nat.le_of_ble_eq_true rfl) ?_
  refine W.eq (g2 := F0 m 4 ls []) rfl ?_
  exact W.vret S.1 S.2.1 hr (fun t ht hW => ⟨⟨(), rfl, trivial, by rw [ht]; exact hP, va_K.moved hW.alike hK, hD⟩, hS.F ht⟩) hS.2.2 dK_init_4 hk
set_option maxHeartbeats 4000000 in
set_option maxRecDepth 100000 in
theorem c_P_init (l : Launch) (D : va_G) (h0 sz n : Nat) (hn : n ≤ 100) : Met l yP_init (.code yP_init cP_init 2 none :: wsA) { frames := 1, cells := 1, slots := 100, locals := 12 } (va_Pc [.ref h0, .int (nI n)] (fun U => U.heap.size = sz ∧ va_P D vwCl (wp0 h0) U.heap ∧ va_K D vwCl [] U ∧ va_D (fun _ => True) (wp0 h0) ∧ nw U)) (va_Qv (fun _ : Nat × ClassId => True) ((fun (A : Nat → Prop) (z : Nat × ClassId) (t : State) => va_P D vwCl (wp1 h0 z.1 z.2 n) t.heap ∧ va_K D vwCl [(z.2, .int)] t ∧ va_D A (wp1 h0 z.1 z.2 n)) (va_A (wp0 h0) sz)) (va_A (wp0 h0) sz)) 1 100 (va_A (wp0 h0) sz) := by
  refine en_c (B := fun (A : Nat → Prop) (z : Nat × ClassId) (t : State) => va_P D vwCl (wp1 h0 z.1 z.2 n) t.heap ∧ va_K D vwCl [(z.2, .int)] t ∧ va_D A (wp1 h0 z.1 z.2 n)) RP rfl (by decide) (Nat.le_of_ble_eq_true rfl) ?_
  intro p e s m below meth c A ls S hr hk hin hA hN hK hP hD hS hl
  have hts := S.2.2.2.2
  have hl : lv_has ls 2 [(0, .ref h0), (1, .int (nI n))] := hl
  have hP : va_P D vwCl [(h0, .inr (2, [.null, .int 0, .int 0]))] s.heap := hP
  have hD : va_D A [(h0, .inr (2, [.null, .int 0, .int 0]))] := hD
  refine lv_aload_n S.1 S.2.1 dP_init_0 rfl (lv_at hl 0 rfl) ?_
  refine W.objInit S.1 S.2.1 S.2.2.2.1 (hts _ wo_oP) (hts _ wo_oi) (hts _ wo_oc) rfl (by rw [S.2.2.1]; exact hl.1) rfl dP_init_1 (Nat.le_of_ble_eq_true rfl) (Nat.le_of_ble_eq_true rfl) ?_
  refine W.eq (g2 := F0 m 4 ls []) rfl ?_
  refine lv_aload_n S.1 S.2.1 dP_init_4 rfl (lv_at hl 0 rfl) ?_
  refine lv_iload_n S.1 S.2.1 dP_init_5 rfl (lv_at hl 1 rfl) ?_
  refine va_newa (atype := .int) (a0 := (n, .inl (fun _ => 0))) (N' := n) S.1 S.2.1 (hts _ wc_ac_I) rfl hK hP hD hS hA (fun _ => rfl) (nI_pos (by omega)) (nI_clamp (by omega)) (by show n * 4 ≤ _; omega) (Nat.le_refl _) (by show 0 + n ≤ 100; omega) dP_init_6 (fun q cB H hK hP hD hS => ?_)
  have hP : va_P D vwCl [(h0, .inr (2, [.null, .int 0, .int 0])), (q, .inl (cB, n, .inl (fun _ => 0)))] H := hP
  have hD : va_D A [(h0, .inr (2, [.null, .int 0, .int 0])), (q, .inl (cB, n, .inl (fun _ => 0)))] := hD
  have hK : va_K D vwCl [(cB, .int)] s := hK
  refine va_putF (D := D) (ci := 2) (v := .ref q) (ty := .array .int) (C := RP) (T := TP) (N := 3) S.1 S.2.1 hts inAP tyP tyP_ok nmP S.2.2.2.1 hK hP hD hS 0 rfl rfl 0 (by decide) (hts _ fl_P_P_bytes) (fun _ h9 => h9) rfl hin rfl (by decide +kernel) rfl rfl (Nat.le_of_ble_eq_true rfl) dP_init_8 (fun H locs hP hD hS => ?_)
  have hP : va_P D vwCl (wp1 h0 q cB n) H := hP
  have hD : va_D A (wp1 h0 q cB n) := hD
  refine W.widen (k := 1) (n := 100) (by omega) (by omega) ?_
  exact W.vret S.1 S.2.1 hr (fun t ht hW => ⟨⟨(q, cB), rfl, trivial, by rw [ht]; exact hP, va_K.moved hW.alike hK, hD⟩, hS.F ht⟩) hS.2.2 dP_init_11 hk

