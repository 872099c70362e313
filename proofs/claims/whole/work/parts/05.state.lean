-- a state of the machine: the class and the reference hold the same one
abbrev St : Type := Int32 × Int32 × Int32 × Int32 × Int32 × Int32 × Int32 × Int32 × Int32 × Int32 × Int32 × Int32 × Int32 × Int32 × Int32 × Int32 × Int32 × Int32 × (Nat → Int32) × (Nat → Int32)
abbrev AX : Type := Nat × Nat × Nat × Nat × Nat × ClassId × ClassId × Nat
abbrev AR : Type := Nat × Nat × Nat × ClassId × ClassId × Nat
def wx (a : AX) (u : St) : va_W := match u with
  | (pc, ac, lk, mq, ma, mb, ir, sw, io, dl, ha, rd, sn, md, kf, kb, cn, pf, co, ou) => [(a.1, .inr (0, [.ref a.2.1, .ref a.2.2.1, .ref a.2.2.2.1, .int pc, .int ac, .int lk, .int mq, .int ma, .int mb, .int ir, .int sw, .int io, .int dl, .int ha, .int rd, .int sn, .int md])), (a.2.1, .inl (a.2.2.2.2.2.1, 4096, .inl co)), (a.2.2.1, .inr (1, [.int kf, .int kb])), (a.2.2.2.1, .inr (2, [.ref a.2.2.2.2.1, .int cn, .int pf])), (a.2.2.2.2.1, .inl (a.2.2.2.2.2.2.1, a.2.2.2.2.2.2.2, .inl ou))]
def wr (a : AR) (u : St) : va_W := match u with
  | (pc, ac, lk, mq, ma, mb, ir, sw, io, dl, ha, rd, sn, md, kf, kb, cn, pf, co, ou) => [(a.1, .inr (3, [.ref a.2.1, .int (nI a.2.2.2.2.2), .int sw, .int rd, .int sn, .int pc, .int ac, .int lk, .int mq, .int ma, .int mb, .int ir, .int io, .int dl, .int ha, .int kf, .int pf, .int kb, .int cn, .ref a.2.2.1, .int md])), (a.2.1, .inl (a.2.2.2.1, 4096, .inl co)), (a.2.2.1, .inl (a.2.2.2.2.1, 100, .inl ou))]
def tx (a : AX) : List (ClassId × FieldType) := [(a.2.2.2.2.2.1, .int), (a.2.2.2.2.2.2.1, .int)]
def tr (a : AR) : List (ClassId × FieldType) := [(a.2.2.2.1, .int), (a.2.2.2.2.1, .int)]
def rmD (d : Nat) : Room := { frames := d, cells := 0, slots := 0, locals := 40 * d }

def PW (D : va_G) (w : St → va_W) (ty : List (ClassId × FieldType)) (sz : Nat) (u : St) : State → Prop := fun U => U.heap.size = sz ∧ va_P D vwCl (w u) U.heap ∧ va_K D vwCl ty U ∧ va_D (fun _ => True) (w u) ∧ nw U
def BW (D : va_G) (w : St → va_W) (ty : List (ClassId × FieldType)) (A : Nat → Prop) (u : St) (t : State) : Prop := va_P D vwCl (w u) t.heap ∧ va_K D vwCl ty t ∧ va_D A (w u)
def MI (l : Launch) (D : va_G) (w : St → va_W) (ty : List (ClassId × FieldType)) (sz : Nat) (y : MethodName) (cc : ByteArray) (mL : Nat) (rt : Option FieldType) (d : Nat) (av : List Value) (u : St) (post : Int32 → St → Prop) : Prop :=
  Met l y (.code y cc mL rt :: wsA) (rmD d) (va_Pc av (PW D w ty sz u)) (va_Qi post (BW D w ty (va_A (w u) sz)) (va_A (w u) sz)) 0 0 (va_A (w u) sz)
def MV (l : Launch) (D : va_G) (w : St → va_W) (ty : List (ClassId × FieldType)) (sz : Nat) (y : MethodName) (cc : ByteArray) (mL : Nat) (d : Nat) (av : List Value) (u : St) (post : St → Prop) : Prop :=
  Met l y (.code y cc mL none :: wsA) (rmD d) (va_Pc av (PW D w ty sz u)) (va_Qv post (BW D w ty (va_A (w u) sz)) (va_A (w u) sz)) 0 0 (va_A (w u) sz)
theorem en_i {l : Launch} {D : va_G} {w : St → va_W} {ty : List (ClassId × FieldType)} {sz : Nat} {y : MethodName} {cc : ByteArray} {mL : Nat} {rt : Option FieldType} {d : Nat} {av : List Value} {u : St} {post : Int32 → St → Prop} (own : String) (ho : y.cls = own) (hy : plainName y.cls = true) (hn : (lg_sl av).length ≤ mL)
    (body : ∀ (p : Program) (e : Env) (s : State) (m : MethodId) (below : List Frame) (meth : Method) (c : Code) (A : Nat → Prop) (ls : Array Slot), CallFix p m c cc mL s av.toArray wsA own → meth.sig.returnType = rt → meth.locks = false → (∀ q, s.heap.size ≤ q → A q) → nw s → va_K D vwCl ty s → va_P D vwCl (w u) s.heap → va_D A (w u) → va_S A s.heap s.heap [] → lv_has ls mL (lv_args 0 av) →
      W p l e (rmD d) s m av.toArray below meth c s.heap [] 0 0 (MQ below (va_Qi post (BW D w ty A) A) av.toArray s 0 0 A) (F0 m 0 ls [])) : MI l D w ty sz y cc mL rt d av u post := by
  unfold MI
  refine Met.ofW (cc := cc) (maxL := mL) (ret := rt) hy rfl ?_
  intro p e s m args below meth c s₁ B hml hv
  obtain ⟨rfl, hsz, hP, hK, hD0, hN⟩ := hv
  have hts := atoms_spec (ws := .code y cc mL rt :: wsA) B.pre
  have hown : s.vm.findClass own = some m.cls := ho ▸ findClass_of_methodNamed B.named
  subst hsz
  have hD := hD0.self (sz := s.heap.size)
  rw [lg_entry_eq]
  exact body p e s m below meth c (va_A (w u) s.heap.size) _ ⟨B.exec, B.bytes, hml, hown, fun w h => hts w (List.mem_cons_of_mem _ h)⟩ B.returns B.notSynchronized (fun q h => Or.inr h) hN hK hP hD va_S.rf (lv_entry av hn)
theorem en_v {l : Launch} {D : va_G} {w : St → va_W} {ty : List (ClassId × FieldType)} {sz : Nat} {y : MethodName} {cc : ByteArray} {mL : Nat} {d : Nat} {av : List Value} {u : St} {post : St → Prop} (own : String) (ho : y.cls = own) (hy : plainName y.cls = true) (hn : (lg_sl av).length ≤ mL)
    (body : ∀ (p : Program) (e : Env) (s : State) (m : MethodId) (below : List Frame) (meth : Method) (c : Code) (A : Nat → Prop) (ls : Array Slot), CallFix p m c cc mL s av.toArray wsA own → meth.sig.returnType = none → meth.locks = false → (∀ q, s.heap.size ≤ q → A q) → nw s → va_K D vwCl ty s → va_P D vwCl (w u) s.heap → va_D A (w u) → va_S A s.heap s.heap [] → lv_has ls mL (lv_args 0 av) →
      W p l e (rmD d) s m av.toArray below meth c s.heap [] 0 0 (MQ below (va_Qv post (BW D w ty A) A) av.toArray s 0 0 A) (F0 m 0 ls [])) : MV l D w ty sz y cc mL d av u post := by
  unfold MV
  refine Met.ofW (cc := cc) (maxL := mL) (ret := none) hy rfl ?_
  intro p e s m args below meth c s₁ B hml hv
  obtain ⟨rfl, hsz, hP, hK, hD0, hN⟩ := hv
  have hts := atoms_spec (ws := .code y cc mL none :: wsA) B.pre
  have hown : s.vm.findClass own = some m.cls := ho ▸ findClass_of_methodNamed B.named
  subst hsz
  have hD := hD0.self (sz := s.heap.size)
  rw [lg_entry_eq]
  exact body p e s m below meth c (va_A (w u) s.heap.size) _ ⟨B.exec, B.bytes, hml, hown, fun w h => hts w (List.mem_cons_of_mem _ h)⟩ B.returns B.notSynchronized (fun q h => Or.inr h) hN hK hP hD va_S.rf (lv_entry av hn)
section RowsShort
variable {p : Program} {l : Launch} {e : Env} {R : Room} {s : State} {m : MethodId} {args : Array Value} {below : List Frame} {meth : Method} {c : Code} {H : Heap} {locs : List Loc} {cells slots : Nat} {Q : State → Prop}
variable {cc : ByteArray} {i nL : Nat} {ls : Array Slot} {rest : List Value} {D : va_G} {A : Nat → Prop} {H0 : Heap} {own : String}
variable {w : St → va_W} {ty : List (ClassId × FieldType)} {u : St}
theorem rt_i {post : Int32 → St → Prop} {r : Int32} (S : CallFix p m c cc nL s args wsA own) (hr : meth.sig.returnType = some .int) (hk : meth.locks = false) (hK : va_K D vwCl ty s) (hP : va_P D vwCl (w u) H) (hD : va_D A (w u)) (hS : va_S A s.heap H locs) (hp : post r u) (hdg : decode cc i = .ok (.ireturn, 1)) : W p l e R s m args below meth c H locs 0 0 (MQ below (va_Qi post (BW D w ty A) A) args s 0 0 A) (F0 m i ls [.int r]) :=
  W.iret S.1 S.2.1 hr (fun t ht hW => ⟨⟨r, u, rfl, hp, by rw [ht]; exact hP, va_K.moved hW.alike hK, hD⟩, hS.F ht⟩) hS.2.2 hdg hk
theorem rt_z {post : Int32 → St → Prop} {r : Int32} (S : CallFix p m c cc nL s args wsA own) (hr : meth.sig.returnType = some .boolean) (hk : meth.locks = false) (hK : va_K D vwCl ty s) (hP : va_P D vwCl (w u) H) (hD : va_D A (w u)) (hS : va_S A s.heap H locs) (hn : narrow .boolean (.int r) = .int r) (hp : post r u) (hdg : decode cc i = .ok (.ireturn, 1)) : W p l e R s m args below meth c H locs 0 0 (MQ below (va_Qi post (BW D w ty A) A) args s 0 0 A) (F0 m i ls [.int r]) :=
  W.zret S.1 S.2.1 hr hn (fun t ht hW => ⟨⟨r, u, rfl, hp, by rw [ht]; exact hP, va_K.moved hW.alike hK, hD⟩, hS.F ht⟩) hS.2.2 hdg hk
theorem rt_v {post : St → Prop} (S : CallFix p m c cc nL s args wsA own) (hr : meth.sig.returnType = none) (hk : meth.locks = false) (hK : va_K D vwCl ty s) (hP : va_P D vwCl (w u) H) (hD : va_D A (w u)) (hS : va_S A s.heap H locs) (hp : post u) (hdg : decode cc i = .ok (.return_, 1)) : W p l e R s m args below meth c H locs 0 0 (MQ below (va_Qv post (BW D w ty A) A) args s 0 0 A) (F0 m i ls []) :=
  W.vret S.1 S.2.1 hr (fun t ht hW => ⟨⟨u, rfl, hp, by rw [ht]; exact hP, va_K.moved hW.alike hK, hD⟩, hS.F ht⟩) hS.2.2 hdg hk
theorem fr_w (hD : va_D A (w u)) (hS : va_S A H0 H locs) (hA : ∀ q, H0.size ≤ q → A q) : ∀ q, va_A (w u) H.size q → A q := fun q h => by
  rcases h with ⟨k, e, h⟩ | h
  · exact hD.2 k (q, e) h
  · exact hA q (Nat.le_trans hS.1 h)
theorem bl_w {av : List Value} {sz : Nat} : FrameBlind (va_Pc av (PW D w ty sz u)) := fun a U g mk q => by
  obtain ⟨q0, q1, qP, qK, qD, qN⟩ := q
  exact ⟨q0, q1, qP, va_K.moved (u := U) (U := U.calling g mk a) (Vm.Alike.refl U.vm) qK, qD, nw_same rfl qN⟩
theorem pr_w {av : List Value} (hN : nw s) (hK : va_K D vwCl ty s) (hP : va_P D vwCl (w u) H) (hD : va_D A (w u)) : ∀ U : State, U.heap = H → s.WarmedH U.vm → va_Pc av (PW D w ty H.size u) av.toArray U := fun U hU hW =>
  ⟨rfl, by rw [hU], by rw [hU]; exact hP, va_K.moved hW.alike hK, hD.weaken (fun _ _ _ _ => trivial), nw_warm hW hN⟩
theorem wg_c {y : MethodName} {mL : Nat} {rt : Option FieldType} (h : Cond.code y cc mL rt ∈ wsA) : GoodIn wsA (.code y cc mL rt :: wsA) := fun w hw => by
  rcases List.mem_cons.mp hw with rfl | hw
  · exact ⟨h, Or.inl rfl⟩
  · exact ⟨hw, good_of_word (wsA_good w hw)⟩
end RowsShort
/-- what a call by invokevirtual asks of the tables: once for each entry of a pool -/
def LkV (own : String) (idx : Nat) (y : MethodName) (cc : ByteArray) (mL : Nat) (rt : Option FieldType) (n : Nat) : Prop := (Cond.code y cc mL rt ∈ wsA ∧ Cond.methodLink own idx y ∈ wsA ∧ Cond.instanceMethod y ∈ wsA ∧ Cond.selects y.cls y y ∈ wsA ∧ Cond.initialized y.cls ∈ wsA) ∧ y.cls ≠ "java/lang/invoke/MethodHandle" ∧ y.cls ≠ "java/lang/invoke/VarHandle" ∧ (parseMethodDescriptor y.desc).map (fun d => d.parameters.length) = some n
def LkS (own : String) (idx : Nat) (y : MethodName) (cc : ByteArray) (mL : Nat) (rt : Option FieldType) (n : Nat) : Prop := (Cond.code y cc mL rt ∈ wsA ∧ Cond.methodLink own idx y ∈ wsA ∧ Cond.static y ∈ wsA ∧ Cond.initialized y.cls ∈ wsA) ∧ y.cls ≠ "java/lang/invoke/MethodHandle" ∧ y.cls ≠ "java/lang/invoke/VarHandle" ∧ (parseMethodDescriptor y.desc).map (fun d => d.parameters.length) = some n
def LkN (y : MethodName) (cc : ByteArray) (mL : Nat) (rt : Option FieldType) (n : Nat) : Prop := (Cond.code y cc mL rt ∈ wsA ∧ Cond.instanceMethod y ∈ wsA ∧ Cond.selects y.cls y y ∈ wsA ∧ Cond.initialized y.cls ∈ wsA) ∧ y.cls ≠ "java/lang/invoke/MethodHandle" ∧ y.cls ≠ "java/lang/invoke/VarHandle" ∧ (parseMethodDescriptor y.desc).map (fun d => d.parameters.length) = some n
section Calls
variable {p : Program} {l : Launch} {e : Env} {R : Room} {s : State} {m : MethodId} {args : Array Value} {below : List Frame} {meth : Method} {c : Code} {H : Heap} {locs : List Loc} {cells slots : Nat} {Q : State → Prop}
variable {cc : ByteArray} {i nL : Nat} {ls : Array Slot} {rest : List Value} {D : va_G} {A : Nat → Prop} {H0 : Heap} {own : String}
variable {w : St → va_W} {ty : List (ClassId × FieldType)} {u : St} {y : MethodName} {ccy : ByteArray} {mL d n idx b : Nat} {rt : Option FieldType} {As st0 : List Value}
theorem cl_i {post : Int32 → St → Prop} (S : CallFix p m c cc nL s args wsA own) (hN : nw s) (hK : va_K D vwCl ty s) (hP : va_P D vwCl (w u) H) (hD : va_D A (w u)) (hS : va_S A H0 H locs) (hA : ∀ q, H0.size ≤ q → A q) (hz : ls.size = nL)
    (hM : MI l D w ty H.size y ccy mL rt d (.ref b :: As) u post) (hL : LkV own idx y ccy mL rt n) (hb : ∃ cell : Cell, H[b]? = some cell ∧ cell.vm.isStatics = false ∧ s.vm.findClass y.cls = some cell.cls)
    (hR : d + 1 ≤ R.frames ∧ 8 + (mL + 11) + 40 * d ≤ R.locals) (hn : As.length = n) (hst : st0 = As.reverse ++ .ref b :: rest) (hW : (rest.map fun v => v.category).sum ≤ 8) (hcs : cells ≤ R.cells ∧ slots ≤ R.slots) (hdg : decode cc i = .ok (.invokevirtual idx, 3))
    (kk : ∀ (r : Int32) (u1 : St) (H1 : Heap) (locs1 : List Loc), post r u1 → va_P D vwCl (w u1) H1 → va_D A (w u1) → va_S A H0 H1 locs1 → W p l e R s m args below meth c H1 locs1 cells slots Q (F0 m (i + 3) ls (.int r :: rest))) : W p l e R s m args below meth c H locs cells slots Q (F0 m i ls st0) := by
  obtain ⟨⟨c1, c2, c3, c4, c5⟩, e1, e2, e3⟩ := hL
  have hts := S.2.2.2.2
  have hF := fr_w hD hS hA
  refine va_calli (va_runV (As := As) (rest := rest) S hM ⟨callB_of n hts (wg_c c1) rfl rfl rfl (hts _ c5) (hts _ c2) ⟨e1, e2, e3⟩ hR, hts _ c3, hts _ c4⟩ ⟨bl_w, hb, pr_w hN hK hP hD⟩ rfl hn hz hst (lv_room hW) hdg hcs) hS (fun q _ h => hF q h) hF (fun r u1 t H1 locs1 ht hvm hw hB hz1 hk1 hS1 => ?_)
  obtain ⟨hP1, hK1, hD1⟩ := hB
  rw [ht] at hP1
  exact kk r u1 H1 locs1 hw hP1 (hD1.weaken (fun _ q _ h => hF q.1 h)) hS1
theorem cl_v {post : St → Prop} (S : CallFix p m c cc nL s args wsA own) (hN : nw s) (hK : va_K D vwCl ty s) (hP : va_P D vwCl (w u) H) (hD : va_D A (w u)) (hS : va_S A H0 H locs) (hA : ∀ q, H0.size ≤ q → A q) (hz : ls.size = nL)
    (hM : MV l D w ty H.size y ccy mL d (.ref b :: As) u post) (hL : LkV own idx y ccy mL none n) (hb : ∃ cell : Cell, H[b]? = some cell ∧ cell.vm.isStatics = false ∧ s.vm.findClass y.cls = some cell.cls)
    (hR : d + 1 ≤ R.frames ∧ 8 + (mL + 11) + 40 * d ≤ R.locals) (hn : As.length = n) (hst : st0 = As.reverse ++ .ref b :: rest) (hW : (rest.map fun v => v.category).sum ≤ 8) (hcs : cells ≤ R.cells ∧ slots ≤ R.slots) (hdg : decode cc i = .ok (.invokevirtual idx, 3))
    (kk : ∀ (u1 : St) (H1 : Heap) (locs1 : List Loc), post u1 → va_P D vwCl (w u1) H1 → va_D A (w u1) → va_S A H0 H1 locs1 → W p l e R s m args below meth c H1 locs1 cells slots Q (F0 m (i + 3) ls rest)) : W p l e R s m args below meth c H locs cells slots Q (F0 m i ls st0) := by
  obtain ⟨⟨c1, c2, c3, c4, c5⟩, e1, e2, e3⟩ := hL
  have hts := S.2.2.2.2
  have hF := fr_w hD hS hA
  refine va_callv (va_runV (As := As) (rest := rest) S hM ⟨callB_of n hts (wg_c c1) rfl rfl rfl (hts _ c5) (hts _ c2) ⟨e1, e2, e3⟩ hR, hts _ c3, hts _ c4⟩ ⟨bl_w, hb, pr_w hN hK hP hD⟩ rfl hn hz hst (lv_room hW) hdg hcs) hS (fun q _ h => hF q h) hF (fun u1 t H1 locs1 ht hvm hw hB hz1 hk1 hS1 => ?_)
  obtain ⟨hP1, hK1, hD1⟩ := hB
  rw [ht] at hP1
  exact kk u1 H1 locs1 hw hP1 (hD1.weaken (fun _ q _ h => hF q.1 h)) hS1
theorem cl_iS {post : Int32 → St → Prop} (S : CallFix p m c cc nL s args wsA own) (hN : nw s) (hK : va_K D vwCl ty s) (hP : va_P D vwCl (w u) H) (hD : va_D A (w u)) (hS : va_S A H0 H locs) (hA : ∀ q, H0.size ≤ q → A q) (hz : ls.size = nL)
    (hM : MI l D w ty H.size y ccy mL rt d As u post) (hL : LkS own idx y ccy mL rt n)
    (hR : d + 1 ≤ R.frames ∧ 8 + (mL + 11) + 40 * d ≤ R.locals) (hn : As.length = n) (hst : st0 = As.reverse ++ rest) (hW : (rest.map fun v => v.category).sum ≤ 8) (hcs : cells ≤ R.cells ∧ slots ≤ R.slots) (hdg : decode cc i = .ok (.invokestatic idx, 3))
    (kk : ∀ (r : Int32) (u1 : St) (H1 : Heap) (locs1 : List Loc), post r u1 → va_P D vwCl (w u1) H1 → va_D A (w u1) → va_S A H0 H1 locs1 → W p l e R s m args below meth c H1 locs1 cells slots Q (F0 m (i + 3) ls (.int r :: rest))) : W p l e R s m args below meth c H locs cells slots Q (F0 m i ls st0) := by
  obtain ⟨⟨c1, c2, c3, c5⟩, e1, e2, e3⟩ := hL
  have hts := S.2.2.2.2
  have hF := fr_w hD hS hA
  refine va_calli (va_runS (As := As) (rest := rest) S hM ⟨callB_of n hts (wg_c c1) rfl rfl rfl (hts _ c5) (hts _ c2) ⟨e1, e2, e3⟩ hR, hts _ c3⟩ ⟨bl_w, pr_w hN hK hP hD⟩ rfl hn hz hst (lv_room hW) hdg hcs) hS (fun q _ h => hF q h) hF (fun r u1 t H1 locs1 ht hvm hw hB hz1 hk1 hS1 => ?_)
  obtain ⟨hP1, hK1, hD1⟩ := hB
  rw [ht] at hP1
  exact kk r u1 H1 locs1 hw hP1 (hD1.weaken (fun _ q _ h => hF q.1 h)) hS1
theorem cl_iN {post : Int32 → St → Prop} {host : String} (S : CallFix p m c cc nL s args wsA own) (hN : nw s) (hK : va_K D vwCl ty s) (hP : va_P D vwCl (w u) H) (hD : va_D A (w u)) (hS : va_S A H0 H locs) (hA : ∀ q, H0.size ≤ q → A q) (hz : ls.size = nL)
    (hM : MI l D w ty H.size y ccy mL rt d (.ref b :: As) u post) (hL : LkN y ccy mL rt n) (hl : va_Nw (.methodLinkNest own idx y host) s) (hb : ∃ cell : Cell, H[b]? = some cell ∧ cell.vm.isStatics = false ∧ s.vm.findClass y.cls = some cell.cls)
    (hR : d + 1 ≤ R.frames ∧ 8 + (mL + 11) + 40 * d ≤ R.locals) (hn : As.length = n) (hst : st0 = As.reverse ++ .ref b :: rest) (hW : (rest.map fun v => v.category).sum ≤ 8) (hcs : cells ≤ R.cells ∧ slots ≤ R.slots) (hdg : decode cc i = .ok (.invokevirtual idx, 3))
    (kk : ∀ (r : Int32) (u1 : St) (H1 : Heap) (locs1 : List Loc), post r u1 → va_P D vwCl (w u1) H1 → va_D A (w u1) → va_S A H0 H1 locs1 → W p l e R s m args below meth c H1 locs1 cells slots Q (F0 m (i + 3) ls (.int r :: rest))) : W p l e R s m args below meth c H locs cells slots Q (F0 m i ls st0) := by
  obtain ⟨⟨c1, c3, c4, c5⟩, e1, e2, e3⟩ := hL
  have hts := S.2.2.2.2
  have hF := fr_w hD hS hA
  refine va_calli (va_runVN (As := As) (rest := rest) S hM ⟨va_cnB n hts (wg_c c1) rfl rfl rfl hl (hts _ c5) ⟨e1, e2, e3⟩ hR, hts _ c3, hts _ c4⟩ ⟨bl_w, hb, pr_w hN hK hP hD⟩ rfl hn hz hst (lv_room hW) hdg hcs) hS (fun q _ h => hF q h) hF (fun r u1 t H1 locs1 ht hvm hw hB hz1 hk1 hS1 => ?_)
  obtain ⟨hP1, hK1, hD1⟩ := hB
  rw [ht] at hP1
  exact kk r u1 H1 locs1 hw hP1 (hD1.weaken (fun _ q _ h => hF q.1 h)) hS1
theorem cl_vN {post : St → Prop} {host : String} (S : CallFix p m c cc nL s args wsA own) (hN : nw s) (hK : va_K D vwCl ty s) (hP : va_P D vwCl (w u) H) (hD : va_D A (w u)) (hS : va_S A H0 H locs) (hA : ∀ q, H0.size ≤ q → A q) (hz : ls.size = nL)
    (hM : MV l D w ty H.size y ccy mL d (.ref b :: As) u post) (hL : LkN y ccy mL none n) (hl : va_Nw (.methodLinkNest own idx y host) s) (hb : ∃ cell : Cell, H[b]? = some cell ∧ cell.vm.isStatics = false ∧ s.vm.findClass y.cls = some cell.cls)
    (hR : d + 1 ≤ R.frames ∧ 8 + (mL + 11) + 40 * d ≤ R.locals) (hn : As.length = n) (hst : st0 = As.reverse ++ .ref b :: rest) (hW : (rest.map fun v => v.category).sum ≤ 8) (hcs : cells ≤ R.cells ∧ slots ≤ R.slots) (hdg : decode cc i = .ok (.invokevirtual idx, 3))
    (kk : ∀ (u1 : St) (H1 : Heap) (locs1 : List Loc), post u1 → va_P D vwCl (w u1) H1 → va_D A (w u1) → va_S A H0 H1 locs1 → W p l e R s m args below meth c H1 locs1 cells slots Q (F0 m (i + 3) ls rest)) : W p l e R s m args below meth c H locs cells slots Q (F0 m i ls st0) := by
  obtain ⟨⟨c1, c3, c4, c5⟩, e1, e2, e3⟩ := hL
  have hts := S.2.2.2.2
  have hF := fr_w hD hS hA
  refine va_callv (va_runVN (As := As) (rest := rest) S hM ⟨va_cnB n hts (wg_c c1) rfl rfl rfl hl (hts _ c5) ⟨e1, e2, e3⟩ hR, hts _ c3, hts _ c4⟩ ⟨bl_w, hb, pr_w hN hK hP hD⟩ rfl hn hz hst (lv_room hW) hdg hcs) hS (fun q _ h => hF q h) hF (fun u1 t H1 locs1 ht hvm hw hB hz1 hk1 hS1 => ?_)
  obtain ⟨hP1, hK1, hD1⟩ := hB
  rw [ht] at hP1
  exact kk u1 H1 locs1 hw hP1 (hD1.weaken (fun _ q _ h => hF q.1 h)) hS1
end Calls
set_option maxRecDepth 20000 in
theorem k_L_9 : LkS RL 9 yL_cell cL_cell 2 (some .int) 2 := ⟨⟨(wm_2 (i := 122) rfl rfl), (wm_2 (i := 120) rfl rfl), (wm_2 (i := 121) rfl rfl), (wm_1 (i := 0) rfl rfl)⟩, by decide, by decide, by decide +kernel⟩
set_option maxRecDepth 20000 in
theorem k_L_21 : LkV RL 21 yX_init_ cX_init_ 1 none 0 := ⟨⟨(wm_1 (i := 109) rfl rfl), (wm_1 (i := 106) rfl rfl), (wm_1 (i := 107) rfl rfl), (wm_1 (i := 108) rfl rfl), (wm_1 (i := 1) rfl rfl)⟩, by decide, by decide, by decide +kernel⟩
set_option maxRecDepth 20000 in
theorem k_L_24 : LkV RL 24 yM_init_ cM_init_ 1 none 0 := ⟨⟨(wm_2 (i := 196) rfl rfl), (wm_2 (i := 193) rfl rfl), (wm_2 (i := 194) rfl rfl), (wm_2 (i := 195) rfl rfl), (wm_1 (i := 5) rfl rfl)⟩, by decide, by decide, by decide +kernel⟩
set_option maxRecDepth 20000 in
theorem k_L_25 : LkV RL 25 yX_deposit cX_deposit 3 (some .boolean) 2 := ⟨⟨(wm_1 (i := 121) rfl rfl), (wm_1 (i := 118) rfl rfl), (wm_1 (i := 119) rfl rfl), (wm_1 (i := 120) rfl rfl), (wm_1 (i := 1) rfl rfl)⟩, by decide, by decide, by decide +kernel⟩
set_option maxRecDepth 20000 in
theorem k_L_29 : LkV RL 29 yM_deposit cM_deposit 3 (some .boolean) 2 := ⟨⟨(wm_2 (i := 200) rfl rfl), (wm_2 (i := 197) rfl rfl), (wm_2 (i := 198) rfl rfl), (wm_2 (i := 199) rfl rfl), (wm_1 (i := 5) rfl rfl)⟩, by decide, by decide, by decide +kernel⟩
set_option maxRecDepth 20000 in
theorem k_L_30 : LkV RL 30 yX_examine cX_examine 2 (some .int) 1 := ⟨⟨(wm_1 (i := 132) rfl rfl), (wm_1 (i := 129) rfl rfl), (wm_1 (i := 130) rfl rfl), (wm_1 (i := 131) rfl rfl), (wm_1 (i := 1) rfl rfl)⟩, by decide, by decide, by decide +kernel⟩
set_option maxRecDepth 20000 in
theorem k_L_34 : LkV RL 34 yM_examine cM_examine 2 (some .int) 1 := ⟨⟨(wm_2 (i := 207) rfl rfl), (wm_2 (i := 204) rfl rfl), (wm_2 (i := 205) rfl rfl), (wm_2 (i := 206) rfl rfl), (wm_1 (i := 5) rfl rfl)⟩, by decide, by decide, by decide +kernel⟩
set_option maxRecDepth 20000 in
theorem k_L_37 : LkV RL 37 yX_load cX_load 6 (some .boolean) 3 := ⟨⟨(wm_1 (i := 140) rfl rfl), (wm_1 (i := 137) rfl rfl), (wm_1 (i := 138) rfl rfl), (wm_1 (i := 139) rfl rfl), (wm_1 (i := 1) rfl rfl)⟩, by decide, by decide, by decide +kernel⟩
set_option maxRecDepth 20000 in
theorem k_L_41 : LkV RL 41 yM_load cM_load 6 (some .boolean) 3 := ⟨⟨(wm_2 (i := 211) rfl rfl), (wm_2 (i := 208) rfl rfl), (wm_2 (i := 209) rfl rfl), (wm_2 (i := 210) rfl rfl), (wm_1 (i := 5) rfl rfl)⟩, by decide, by decide, by decide +kernel⟩
set_option maxRecDepth 20000 in
theorem k_L_42 : LkV RL 42 yX_start cX_start 2 (some .boolean) 1 := ⟨⟨(wm_1 (i := 144) rfl rfl), (wm_1 (i := 141) rfl rfl), (wm_1 (i := 142) rfl rfl), (wm_1 (i := 143) rfl rfl), (wm_1 (i := 1) rfl rfl)⟩, by decide, by decide, by decide +kernel⟩
set_option maxRecDepth 20000 in
theorem k_L_46 : LkV RL 46 yM_start cM_start 2 (some .boolean) 1 := ⟨⟨(wm_2 (i := 215) rfl rfl), (wm_2 (i := 212) rfl rfl), (wm_2 (i := 213) rfl rfl), (wm_2 (i := 214) rfl rfl), (wm_1 (i := 5) rfl rfl)⟩, by decide, by decide, by decide +kernel⟩
set_option maxRecDepth 20000 in
theorem k_L_47 : LkV RL 47 yX_switches cX_switches 2 none 1 := ⟨⟨(wm_1 (i := 148) rfl rfl), (wm_1 (i := 145) rfl rfl), (wm_1 (i := 146) rfl rfl), (wm_1 (i := 147) rfl rfl), (wm_1 (i := 1) rfl rfl)⟩, by decide, by decide, by decide +kernel⟩
set_option maxRecDepth 20000 in
theorem k_L_50 : LkV RL 50 yM_switches cM_switches 2 none 1 := ⟨⟨(wm_2 (i := 219) rfl rfl), (wm_2 (i := 216) rfl rfl), (wm_2 (i := 217) rfl rfl), (wm_2 (i := 218) rfl rfl), (wm_1 (i := 5) rfl rfl)⟩, by decide, by decide, by decide +kernel⟩
set_option maxRecDepth 20000 in
theorem k_L_51 : LkV RL 51 yX_key cX_key 2 none 1 := ⟨⟨(wm_1 (i := 152) rfl rfl), (wm_1 (i := 149) rfl rfl), (wm_1 (i := 150) rfl rfl), (wm_1 (i := 151) rfl rfl), (wm_1 (i := 1) rfl rfl)⟩, by decide, by decide, by decide +kernel⟩
set_option maxRecDepth 20000 in
theorem k_L_54 : LkV RL 54 yM_key cM_key 2 none 1 := ⟨⟨(wm_2 (i := 223) rfl rfl), (wm_2 (i := 220) rfl rfl), (wm_2 (i := 221) rfl rfl), (wm_2 (i := 222) rfl rfl), (wm_1 (i := 5) rfl rfl)⟩, by decide, by decide, by decide +kernel⟩
set_option maxRecDepth 20000 in
theorem k_L_55 : LkV RL 55 yX_microStep cX_microStep 1 (some .int) 0 := ⟨⟨(wm_1 (i := 160) rfl rfl), (wm_1 (i := 157) rfl rfl), (wm_1 (i := 158) rfl rfl), (wm_1 (i := 159) rfl rfl), (wm_1 (i := 1) rfl rfl)⟩, by decide, by decide, by decide +kernel⟩
set_option maxRecDepth 20000 in
theorem k_L_59 : LkV RL 59 yM_microStep cM_microStep 1 (some .int) 0 := ⟨⟨(wm_2 (i := 227) rfl rfl), (wm_2 (i := 224) rfl rfl), (wm_2 (i := 225) rfl rfl), (wm_2 (i := 226) rfl rfl), (wm_1 (i := 5) rfl rfl)⟩, by decide, by decide, by decide +kernel⟩
set_option maxRecDepth 20000 in
theorem k_L_60 : LkV RL 60 yX_step cX_step 3 (some .int) 0 := ⟨⟨(wm_2 (i := 97) rfl rfl), (wm_2 (i := 94) rfl rfl), (wm_2 (i := 95) rfl rfl), (wm_2 (i := 96) rfl rfl), (wm_1 (i := 1) rfl rfl)⟩, by decide, by decide, by decide +kernel⟩
set_option maxRecDepth 20000 in
theorem k_L_63 : LkV RL 63 yM_step cM_step 3 (some .int) 0 := ⟨⟨(wm_3 (i := 27) rfl rfl), (wm_3 (i := 24) rfl rfl), (wm_3 (i := 25) rfl rfl), (wm_3 (i := 26) rfl rfl), (wm_1 (i := 5) rfl rfl)⟩, by decide, by decide, by decide +kernel⟩
set_option maxRecDepth 20000 in
theorem k_L_64 : LkV RL 64 yX_run cX_run 3 (some .int) 1 := ⟨⟨(wm_2 (i := 102) rfl rfl), (wm_2 (i := 99) rfl rfl), (wm_2 (i := 100) rfl rfl), (wm_2 (i := 101) rfl rfl), (wm_1 (i := 1) rfl rfl)⟩, by decide, by decide, by decide +kernel⟩
set_option maxRecDepth 20000 in
theorem k_L_67 : LkV RL 67 yM_run cM_run 4 (some .int) 1 := ⟨⟨(wm_3 (i := 32) rfl rfl), (wm_3 (i := 29) rfl rfl), (wm_3 (i := 30) rfl rfl), (wm_3 (i := 31) rfl rfl), (wm_1 (i := 5) rfl rfl)⟩, by decide, by decide, by decide +kernel⟩
set_option maxRecDepth 20000 in
theorem k_L_68 : LkV RL 68 yX_look cX_look 2 (some .int) 1 := ⟨⟨(wm_2 (i := 107) rfl rfl), (wm_2 (i := 104) rfl rfl), (wm_2 (i := 105) rfl rfl), (wm_2 (i := 106) rfl rfl), (wm_1 (i := 1) rfl rfl)⟩, by decide, by decide, by decide +kernel⟩
set_option maxRecDepth 20000 in
theorem k_L_71 : LkV RL 71 yM_look cM_look 2 (some .int) 1 := ⟨⟨(wm_3 (i := 37) rfl rfl), (wm_3 (i := 34) rfl rfl), (wm_3 (i := 35) rfl rfl), (wm_3 (i := 36) rfl rfl), (wm_1 (i := 5) rfl rfl)⟩, by decide, by decide, by decide +kernel⟩
set_option maxRecDepth 20000 in
theorem k_L_72 : LkV RL 72 yX_printed cX_printed 2 (some .int) 1 := ⟨⟨(wm_2 (i := 115) rfl rfl), (wm_2 (i := 112) rfl rfl), (wm_2 (i := 113) rfl rfl), (wm_2 (i := 114) rfl rfl), (wm_1 (i := 1) rfl rfl)⟩, by decide, by decide, by decide +kernel⟩
set_option maxRecDepth 20000 in
theorem k_L_75 : LkV RL 75 yM_printed cM_printed 2 (some .int) 1 := ⟨⟨(wm_3 (i := 45) rfl rfl), (wm_3 (i := 42) rfl rfl), (wm_3 (i := 43) rfl rfl), (wm_3 (i := 44) rfl rfl), (wm_1 (i := 5) rfl rfl)⟩, by decide, by decide, by decide +kernel⟩
set_option maxRecDepth 20000 in
theorem k_M_72 : LkS RM 72 yM_isAddress cM_isAddress 1 (some .boolean) 1 := ⟨⟨(wm_2 (i := 203) rfl rfl), (wm_2 (i := 201) rfl rfl), (wm_2 (i := 202) rfl rfl), (wm_1 (i := 5) rfl rfl)⟩, by decide, by decide, by decide +kernel⟩
set_option maxRecDepth 20000 in
theorem k_M_79 : LkV RM 79 yM_skip cM_skip 2 none 1 := ⟨⟨(wm_2 (i := 235) rfl rfl), (wm_2 (i := 232) rfl rfl), (wm_2 (i := 234) rfl rfl), (wm_0 (i := 51) rfl rfl), (wm_1 (i := 5) rfl rfl)⟩, by decide, by decide, by decide +kernel⟩
set_option maxRecDepth 20000 in
theorem k_M_83 : LkV RM 83 yM_bit cM_bit 2 (some .boolean) 1 := ⟨⟨(wm_2 (i := 239) rfl rfl), (wm_2 (i := 236) rfl rfl), (wm_2 (i := 238) rfl rfl), (wm_0 (i := 52) rfl rfl), (wm_1 (i := 5) rfl rfl)⟩, by decide, by decide, by decide +kernel⟩
set_option maxRecDepth 20000 in
theorem k_M_86 : LkV RM 86 yM_add cM_add 3 none 1 := ⟨⟨(wm_3 (i := 7) rfl rfl), (wm_3 (i := 4) rfl rfl), (wm_3 (i := 6) rfl rfl), (wm_0 (i := 54) rfl rfl), (wm_1 (i := 5) rfl rfl)⟩, by decide, by decide, by decide +kernel⟩
set_option maxRecDepth 20000 in
theorem k_M_90 : LkV RM 90 yM_rotate cM_rotate 2 none 0 := ⟨⟨(wm_3 (i := 15) rfl rfl), (wm_3 (i := 12) rfl rfl), (wm_3 (i := 14) rfl rfl), (wm_0 (i := 56) rfl rfl), (wm_1 (i := 5) rfl rfl)⟩, by decide, by decide, by decide +kernel⟩
set_option maxRecDepth 20000 in
theorem k_M_93 : LkV RM 93 yM_fetch cM_fetch 1 (some .int) 0 := ⟨⟨(wm_2 (i := 231) rfl rfl), (wm_2 (i := 228) rfl rfl), (wm_2 (i := 230) rfl rfl), (wm_0 (i := 50) rfl rfl), (wm_1 (i := 5) rfl rfl)⟩, by decide, by decide, by decide +kernel⟩
set_option maxRecDepth 20000 in
theorem k_M_97 : LkV RM 97 yM_memory cM_memory 1 (some .int) 0 := ⟨⟨(wm_3 (i := 3) rfl rfl), (wm_3 (i := 0) rfl rfl), (wm_3 (i := 2) rfl rfl), (wm_0 (i := 53) rfl rfl), (wm_1 (i := 5) rfl rfl)⟩, by decide, by decide, by decide +kernel⟩
set_option maxRecDepth 20000 in
theorem k_M_100 : LkV RM 100 yM_operate cM_operate 1 (some .int) 0 := ⟨⟨(wm_3 (i := 11) rfl rfl), (wm_3 (i := 8) rfl rfl), (wm_3 (i := 10) rfl rfl), (wm_0 (i := 55) rfl rfl), (wm_1 (i := 5) rfl rfl)⟩, by decide, by decide, by decide +kernel⟩
set_option maxRecDepth 20000 in
theorem k_M_103 : LkV RM 103 yM_test cM_test 3 (some .int) 0 := ⟨⟨(wm_3 (i := 19) rfl rfl), (wm_3 (i := 16) rfl rfl), (wm_3 (i := 18) rfl rfl), (wm_0 (i := 57) rfl rfl), (wm_1 (i := 5) rfl rfl)⟩, by decide, by decide, by decide +kernel⟩
set_option maxRecDepth 20000 in
theorem k_M_106 : LkV RM 106 yM_device cM_device 2 (some .int) 0 := ⟨⟨(wm_3 (i := 23) rfl rfl), (wm_3 (i := 20) rfl rfl), (wm_3 (i := 22) rfl rfl), (wm_0 (i := 58) rfl rfl), (wm_1 (i := 5) rfl rfl)⟩, by decide, by decide, by decide +kernel⟩
set_option maxRecDepth 20000 in
theorem k_M_109 : LkV RM 109 yM_microStep cM_microStep 1 (some .int) 0 := ⟨⟨(wm_2 (i := 227) rfl rfl), (wm_3 (i := 28) rfl rfl), (wm_2 (i := 225) rfl rfl), (wm_2 (i := 226) rfl rfl), (wm_1 (i := 5) rfl rfl)⟩, by decide, by decide, by decide +kernel⟩
set_option maxRecDepth 20000 in
theorem k_M_112 : LkV RM 112 yM_step cM_step 3 (some .int) 0 := ⟨⟨(wm_3 (i := 27) rfl rfl), (wm_3 (i := 33) rfl rfl), (wm_3 (i := 25) rfl rfl), (wm_3 (i := 26) rfl rfl), (wm_1 (i := 5) rfl rfl)⟩, by decide, by decide, by decide +kernel⟩
set_option maxRecDepth 20000 in
theorem k_M_115 : LkV RM 115 yM_flags cM_flags 1 (some .int) 0 := ⟨⟨(wm_3 (i := 41) rfl rfl), (wm_3 (i := 38) rfl rfl), (wm_3 (i := 40) rfl rfl), (wm_0 (i := 59) rfl rfl), (wm_1 (i := 5) rfl rfl)⟩, by decide, by decide, by decide +kernel⟩
set_option maxRecDepth 20000 in
theorem k_P_23 : LkV RP 23 yP_isFull cP_isFull 1 (some .boolean) 0 := ⟨⟨(wm_1 (i := 164) rfl rfl), (wm_2 (i := 89) rfl rfl), (wm_1 (i := 163) rfl rfl), (wm_0 (i := 5) rfl rfl), (wm_1 (i := 3) rfl rfl)⟩, by decide, by decide, by decide +kernel⟩
set_option maxRecDepth 20000 in
theorem k_X_83 : LkS RX 83 yX_isAddress cX_isAddress 1 (some .boolean) 1 := ⟨⟨(wm_1 (i := 124) rfl rfl), (wm_1 (i := 122) rfl rfl), (wm_1 (i := 123) rfl rfl), (wm_1 (i := 1) rfl rfl)⟩, by decide, by decide, by decide +kernel⟩
set_option maxRecDepth 20000 in
theorem k_X_87 : LkV RX 87 yX_write cX_write 3 none 2 := ⟨⟨(wm_1 (i := 128) rfl rfl), (wm_1 (i := 125) rfl rfl), (wm_1 (i := 127) rfl rfl), (wm_0 (i := 2) rfl rfl), (wm_1 (i := 1) rfl rfl)⟩, by decide, by decide, by decide +kernel⟩
set_option maxRecDepth 20000 in
theorem k_X_91 : LkV RX 91 yX_read cX_read 2 (some .int) 1 := ⟨⟨(wm_1 (i := 136) rfl rfl), (wm_1 (i := 133) rfl rfl), (wm_1 (i := 135) rfl rfl), (wm_0 (i := 3) rfl rfl), (wm_1 (i := 1) rfl rfl)⟩, by decide, by decide, by decide +kernel⟩
set_option maxRecDepth 20000 in
theorem k_X_105 : LkV RX 105 yX_perform cX_perform 2 (some .int) 1 := ⟨⟨(wm_1 (i := 168) rfl rfl), (wm_1 (i := 165) rfl rfl), (wm_1 (i := 167) rfl rfl), (wm_0 (i := 6) rfl rfl), (wm_1 (i := 1) rfl rfl)⟩, by decide, by decide, by decide +kernel⟩
set_option maxRecDepth 20000 in
theorem k_X_108 : LkV RX 108 yX_microStep cX_microStep 1 (some .int) 0 := ⟨⟨(wm_1 (i := 160) rfl rfl), (wm_2 (i := 98) rfl rfl), (wm_1 (i := 158) rfl rfl), (wm_1 (i := 159) rfl rfl), (wm_1 (i := 1) rfl rfl)⟩, by decide, by decide, by decide +kernel⟩
set_option maxRecDepth 20000 in
theorem k_X_112 : LkV RX 112 yX_step cX_step 3 (some .int) 0 := ⟨⟨(wm_2 (i := 97) rfl rfl), (wm_2 (i := 103) rfl rfl), (wm_2 (i := 95) rfl rfl), (wm_2 (i := 96) rfl rfl), (wm_1 (i := 1) rfl rfl)⟩, by decide, by decide, by decide +kernel⟩
set_option maxRecDepth 20000 in
theorem k_X_115 : LkV RX 115 yX_conditions cX_conditions 1 (some .int) 0 := ⟨⟨(wm_2 (i := 111) rfl rfl), (wm_2 (i := 108) rfl rfl), (wm_2 (i := 110) rfl rfl), (wm_0 (i := 48) rfl rfl), (wm_1 (i := 1) rfl rfl)⟩, by decide, by decide, by decide +kernel⟩
set_option maxRecDepth 20000 in
theorem k_X_131 : LkV RX 131 yX_begin cX_begin 1 (some .int) 0 := ⟨⟨(wm_1 (i := 172) rfl rfl), (wm_1 (i := 169) rfl rfl), (wm_1 (i := 171) rfl rfl), (wm_0 (i := 7) rfl rfl), (wm_1 (i := 1) rfl rfl)⟩, by decide, by decide, by decide +kernel⟩
set_option maxRecDepth 20000 in
theorem k_X_134 : LkV RX 134 yX_fetch cX_fetch 1 (some .int) 0 := ⟨⟨(wm_1 (i := 180) rfl rfl), (wm_1 (i := 177) rfl rfl), (wm_1 (i := 179) rfl rfl), (wm_0 (i := 9) rfl rfl), (wm_1 (i := 1) rfl rfl)⟩, by decide, by decide, by decide +kernel⟩
set_option maxRecDepth 20000 in
theorem k_X_137 : LkV RX 137 yX_findAddress cX_findAddress 2 (some .int) 0 := ⟨⟨(wm_1 (i := 184) rfl rfl), (wm_1 (i := 181) rfl rfl), (wm_1 (i := 183) rfl rfl), (wm_0 (i := 10) rfl rfl), (wm_1 (i := 1) rfl rfl)⟩, by decide, by decide, by decide +kernel⟩
set_option maxRecDepth 20000 in
theorem k_X_140 : LkV RX 140 yX_readPointer cX_readPointer 1 (some .int) 0 := ⟨⟨(wm_1 (i := 196) rfl rfl), (wm_1 (i := 193) rfl rfl), (wm_1 (i := 195) rfl rfl), (wm_0 (i := 13) rfl rfl), (wm_1 (i := 1) rfl rfl)⟩, by decide, by decide, by decide +kernel⟩
set_option maxRecDepth 20000 in
theorem k_X_143 : LkV RX 143 yX_advancePointer cX_advancePointer 1 (some .int) 0 := ⟨⟨(wm_1 (i := 200) rfl rfl), (wm_1 (i := 197) rfl rfl), (wm_1 (i := 199) rfl rfl), (wm_0 (i := 14) rfl rfl), (wm_1 (i := 1) rfl rfl)⟩, by decide, by decide, by decide +kernel⟩
set_option maxRecDepth 20000 in
theorem k_X_146 : LkV RX 146 yX_followPointer cX_followPointer 1 (some .int) 0 := ⟨⟨(wm_1 (i := 204) rfl rfl), (wm_1 (i := 201) rfl rfl), (wm_1 (i := 203) rfl rfl), (wm_0 (i := 15) rfl rfl), (wm_1 (i := 1) rfl rfl)⟩, by decide, by decide, by decide +kernel⟩
set_option maxRecDepth 20000 in
theorem k_X_149 : LkV RX 149 yX_readOperand cX_readOperand 2 (some .int) 1 := ⟨⟨(wm_1 (i := 208) rfl rfl), (wm_1 (i := 205) rfl rfl), (wm_1 (i := 207) rfl rfl), (wm_0 (i := 16) rfl rfl), (wm_1 (i := 1) rfl rfl)⟩, by decide, by decide, by decide +kernel⟩
set_option maxRecDepth 20000 in
theorem k_X_152 : LkV RX 152 yX_readOneMore cX_readOneMore 1 (some .int) 0 := ⟨⟨(wm_1 (i := 212) rfl rfl), (wm_1 (i := 209) rfl rfl), (wm_1 (i := 211) rfl rfl), (wm_0 (i := 17) rfl rfl), (wm_1 (i := 1) rfl rfl)⟩, by decide, by decide, by decide +kernel⟩
set_option maxRecDepth 20000 in
theorem k_X_155 : LkV RX 155 yX_takeIntoMb cX_takeIntoMb 3 (some .int) 2 := ⟨⟨(wm_1 (i := 216) rfl rfl), (wm_1 (i := 213) rfl rfl), (wm_1 (i := 215) rfl rfl), (wm_0 (i := 18) rfl rfl), (wm_1 (i := 1) rfl rfl)⟩, by decide, by decide, by decide +kernel⟩
set_option maxRecDepth 20000 in
theorem k_X_158 : LkV RX 158 yX_jump cX_jump 1 (some .int) 0 := ⟨⟨(wm_1 (i := 220) rfl rfl), (wm_1 (i := 217) rfl rfl), (wm_1 (i := 219) rfl rfl), (wm_0 (i := 19) rfl rfl), (wm_1 (i := 1) rfl rfl)⟩, by decide, by decide, by decide +kernel⟩
set_option maxRecDepth 20000 in
theorem k_X_161 : LkV RX 161 yX_storeAndGoBehind cX_storeAndGoBehind 1 (some .int) 0 := ⟨⟨(wm_1 (i := 224) rfl rfl), (wm_1 (i := 221) rfl rfl), (wm_1 (i := 223) rfl rfl), (wm_0 (i := 20) rfl rfl), (wm_1 (i := 1) rfl rfl)⟩, by decide, by decide, by decide +kernel⟩
set_option maxRecDepth 20000 in
theorem k_X_164 : LkV RX 164 yX_andOperand cX_andOperand 1 (some .int) 0 := ⟨⟨(wm_1 (i := 228) rfl rfl), (wm_1 (i := 225) rfl rfl), (wm_1 (i := 227) rfl rfl), (wm_0 (i := 21) rfl rfl), (wm_1 (i := 1) rfl rfl)⟩, by decide, by decide, by decide +kernel⟩
set_option maxRecDepth 20000 in
theorem k_X_167 : LkV RX 167 yX_addOperand cX_addOperand 1 (some .int) 0 := ⟨⟨(wm_1 (i := 232) rfl rfl), (wm_1 (i := 229) rfl rfl), (wm_1 (i := 231) rfl rfl), (wm_0 (i := 22) rfl rfl), (wm_1 (i := 1) rfl rfl)⟩, by decide, by decide, by decide +kernel⟩
set_option maxRecDepth 20000 in
theorem k_X_170 : LkV RX 170 yX_storeAndSkipIfZero cX_storeAndSkipIfZero 1 (some .int) 0 := ⟨⟨(wm_2 (i := 4) rfl rfl), (wm_2 (i := 1) rfl rfl), (wm_2 (i := 3) rfl rfl), (wm_0 (i := 25) rfl rfl), (wm_1 (i := 1) rfl rfl)⟩, by decide, by decide, by decide +kernel⟩
set_option maxRecDepth 20000 in
theorem k_X_173 : LkV RX 173 yX_storeAndClear cX_storeAndClear 1 (some .int) 0 := ⟨⟨(wm_2 (i := 8) rfl rfl), (wm_2 (i := 5) rfl rfl), (wm_2 (i := 7) rfl rfl), (wm_0 (i := 26) rfl rfl), (wm_1 (i := 1) rfl rfl)⟩, by decide, by decide, by decide +kernel⟩
set_option maxRecDepth 20000 in
theorem k_X_176 : LkV RX 176 yX_chooseOperateGroup cX_chooseOperateGroup 1 (some .int) 0 := ⟨⟨(wm_2 (i := 12) rfl rfl), (wm_2 (i := 9) rfl rfl), (wm_2 (i := 11) rfl rfl), (wm_0 (i := 27) rfl rfl), (wm_1 (i := 1) rfl rfl)⟩, by decide, by decide, by decide +kernel⟩
set_option maxRecDepth 20000 in
theorem k_X_179 : LkV RX 179 yX_clear cX_clear 1 (some .int) 0 := ⟨⟨(wm_2 (i := 16) rfl rfl), (wm_2 (i := 13) rfl rfl), (wm_2 (i := 15) rfl rfl), (wm_0 (i := 28) rfl rfl), (wm_1 (i := 1) rfl rfl)⟩, by decide, by decide, by decide +kernel⟩
set_option maxRecDepth 20000 in
theorem k_X_182 : LkV RX 182 yX_complement cX_complement 1 (some .int) 0 := ⟨⟨(wm_2 (i := 24) rfl rfl), (wm_2 (i := 21) rfl rfl), (wm_2 (i := 23) rfl rfl), (wm_0 (i := 30) rfl rfl), (wm_1 (i := 1) rfl rfl)⟩, by decide, by decide, by decide +kernel⟩
set_option maxRecDepth 20000 in
theorem k_X_185 : LkV RX 185 yX_increment cX_increment 1 (some .int) 0 := ⟨⟨(wm_2 (i := 28) rfl rfl), (wm_2 (i := 25) rfl rfl), (wm_2 (i := 27) rfl rfl), (wm_0 (i := 31) rfl rfl), (wm_1 (i := 1) rfl rfl)⟩, by decide, by decide, by decide +kernel⟩
set_option maxRecDepth 20000 in
theorem k_X_188 : LkV RX 188 yX_rotateFirst cX_rotateFirst 1 (some .int) 0 := ⟨⟨(wm_2 (i := 32) rfl rfl), (wm_2 (i := 29) rfl rfl), (wm_2 (i := 31) rfl rfl), (wm_0 (i := 32) rfl rfl), (wm_1 (i := 1) rfl rfl)⟩, by decide, by decide, by decide +kernel⟩
set_option maxRecDepth 20000 in
theorem k_X_191 : LkV RX 191 yX_rotateLast cX_rotateLast 1 (some .int) 0 := ⟨⟨(wm_2 (i := 40) rfl rfl), (wm_2 (i := 37) rfl rfl), (wm_2 (i := 39) rfl rfl), (wm_0 (i := 34) rfl rfl), (wm_1 (i := 1) rfl rfl)⟩, by decide, by decide, by decide +kernel⟩
set_option maxRecDepth 20000 in
theorem k_X_194 : LkV RX 194 yX_test cX_test 2 (some .int) 0 := ⟨⟨(wm_2 (i := 44) rfl rfl), (wm_2 (i := 41) rfl rfl), (wm_2 (i := 43) rfl rfl), (wm_0 (i := 35) rfl rfl), (wm_1 (i := 1) rfl rfl)⟩, by decide, by decide, by decide +kernel⟩
set_option maxRecDepth 20000 in
theorem k_X_197 : LkV RX 197 yX_clearAfterTest cX_clearAfterTest 1 (some .int) 0 := ⟨⟨(wm_2 (i := 48) rfl rfl), (wm_2 (i := 45) rfl rfl), (wm_2 (i := 47) rfl rfl), (wm_0 (i := 36) rfl rfl), (wm_1 (i := 1) rfl rfl)⟩, by decide, by decide, by decide +kernel⟩
set_option maxRecDepth 20000 in
theorem k_X_200 : LkV RX 200 yX_switchesAndHalt cX_switchesAndHalt 1 (some .int) 0 := ⟨⟨(wm_2 (i := 52) rfl rfl), (wm_2 (i := 49) rfl rfl), (wm_2 (i := 51) rfl rfl), (wm_0 (i := 37) rfl rfl), (wm_1 (i := 1) rfl rfl)⟩, by decide, by decide, by decide +kernel⟩
set_option maxRecDepth 20000 in
theorem k_X_203 : LkV RX 203 yX_clearBeforeMq cX_clearBeforeMq 1 (some .int) 0 := ⟨⟨(wm_2 (i := 56) rfl rfl), (wm_2 (i := 53) rfl rfl), (wm_2 (i := 55) rfl rfl), (wm_0 (i := 38) rfl rfl), (wm_1 (i := 1) rfl rfl)⟩, by decide, by decide, by decide +kernel⟩
set_option maxRecDepth 20000 in
theorem k_X_206 : LkV RX 206 yX_exchangeMq cX_exchangeMq 3 (some .int) 0 := ⟨⟨(wm_2 (i := 60) rfl rfl), (wm_2 (i := 57) rfl rfl), (wm_2 (i := 59) rfl rfl), (wm_0 (i := 39) rfl rfl), (wm_1 (i := 1) rfl rfl)⟩, by decide, by decide, by decide +kernel⟩
set_option maxRecDepth 20000 in
theorem k_X_209 : LkV RX 209 yX_chooseDevice cX_chooseDevice 1 (some .int) 0 := ⟨⟨(wm_2 (i := 64) rfl rfl), (wm_2 (i := 61) rfl rfl), (wm_2 (i := 63) rfl rfl), (wm_0 (i := 40) rfl rfl), (wm_1 (i := 1) rfl rfl)⟩, by decide, by decide, by decide +kernel⟩
set_option maxRecDepth 20000 in
theorem k_X_212 : LkV RX 212 yX_turnInterrupts cX_turnInterrupts 1 (some .int) 0 := ⟨⟨(wm_2 (i := 68) rfl rfl), (wm_2 (i := 65) rfl rfl), (wm_2 (i := 67) rfl rfl), (wm_0 (i := 41) rfl rfl), (wm_1 (i := 1) rfl rfl)⟩, by decide, by decide, by decide +kernel⟩
set_option maxRecDepth 20000 in
theorem k_X_215 : LkV RX 215 yX_askKeyboard cX_askKeyboard 1 (some .int) 0 := ⟨⟨(wm_2 (i := 72) rfl rfl), (wm_2 (i := 69) rfl rfl), (wm_2 (i := 71) rfl rfl), (wm_0 (i := 42) rfl rfl), (wm_1 (i := 1) rfl rfl)⟩, by decide, by decide, by decide +kernel⟩
set_option maxRecDepth 20000 in
theorem k_X_218 : LkV RX 218 yX_readKeyboard cX_readKeyboard 1 (some .int) 0 := ⟨⟨(wm_2 (i := 76) rfl rfl), (wm_2 (i := 73) rfl rfl), (wm_2 (i := 75) rfl rfl), (wm_0 (i := 43) rfl rfl), (wm_1 (i := 1) rfl rfl)⟩, by decide, by decide, by decide +kernel⟩
set_option maxRecDepth 20000 in
theorem k_X_221 : LkV RX 221 yX_askPrinter cX_askPrinter 1 (some .int) 0 := ⟨⟨(wm_2 (i := 80) rfl rfl), (wm_2 (i := 77) rfl rfl), (wm_2 (i := 79) rfl rfl), (wm_0 (i := 44) rfl rfl), (wm_1 (i := 1) rfl rfl)⟩, by decide, by decide, by decide +kernel⟩
set_option maxRecDepth 20000 in
theorem k_X_224 : LkV RX 224 yX_writePrinter cX_writePrinter 1 (some .int) 0 := ⟨⟨(wm_2 (i := 84) rfl rfl), (wm_2 (i := 81) rfl rfl), (wm_2 (i := 83) rfl rfl), (wm_0 (i := 45) rfl rfl), (wm_1 (i := 1) rfl rfl)⟩, by decide, by decide, by decide +kernel⟩
set_option maxRecDepth 20000 in
theorem k_X_227 : LkV RX 227 yX_interrupt cX_interrupt 1 (some .int) 0 := ⟨⟨(wm_2 (i := 93) rfl rfl), (wm_2 (i := 90) rfl rfl), (wm_2 (i := 92) rfl rfl), (wm_0 (i := 47) rfl rfl), (wm_1 (i := 1) rfl rfl)⟩, by decide, by decide, by decide +kernel⟩
set_option maxRecDepth 20000 in
theorem k_X_230 : LkV RX 230 yX_advancePc cX_advancePc 1 none 0 := ⟨⟨(wm_1 (i := 176) rfl rfl), (wm_1 (i := 173) rfl rfl), (wm_1 (i := 175) rfl rfl), (wm_0 (i := 8) rfl rfl), (wm_1 (i := 1) rfl rfl)⟩, by decide, by decide, by decide +kernel⟩
set_option maxRecDepth 20000 in
theorem k_X_233 : LkV RX 233 yX_irHas cX_irHas 2 (some .boolean) 1 := ⟨⟨(wm_1 (i := 188) rfl rfl), (wm_1 (i := 185) rfl rfl), (wm_1 (i := 187) rfl rfl), (wm_0 (i := 11) rfl rfl), (wm_1 (i := 1) rfl rfl)⟩, by decide, by decide, by decide +kernel⟩
set_option maxRecDepth 20000 in
theorem k_X_236 : LkV RX 236 yX_firstOfInstruction cX_firstOfInstruction 1 (some .int) 0 := ⟨⟨(wm_1 (i := 192) rfl rfl), (wm_1 (i := 189) rfl rfl), (wm_1 (i := 191) rfl rfl), (wm_0 (i := 12) rfl rfl), (wm_1 (i := 1) rfl rfl)⟩, by decide, by decide, by decide +kernel⟩
set_option maxRecDepth 20000 in
theorem k_X_239 : LkV RX 239 yX_addToAc cX_addToAc 3 none 1 := ⟨⟨(wm_1 (i := 236) rfl rfl), (wm_1 (i := 233) rfl rfl), (wm_1 (i := 235) rfl rfl), (wm_0 (i := 23) rfl rfl), (wm_1 (i := 1) rfl rfl)⟩, by decide, by decide, by decide +kernel⟩
set_option maxRecDepth 20000 in
theorem k_X_242 : LkV RX 242 yX_turnLinkOver cX_turnLinkOver 1 none 0 := ⟨⟨(wm_2 (i := 0) rfl rfl), (wm_1 (i := 237) rfl rfl), (wm_1 (i := 239) rfl rfl), (wm_0 (i := 24) rfl rfl), (wm_1 (i := 1) rfl rfl)⟩, by decide, by decide, by decide +kernel⟩
set_option maxRecDepth 20000 in
theorem k_X_245 : LkV RX 245 yX_clearAcIfAsked cX_clearAcIfAsked 1 none 0 := ⟨⟨(wm_2 (i := 20) rfl rfl), (wm_2 (i := 17) rfl rfl), (wm_2 (i := 19) rfl rfl), (wm_0 (i := 29) rfl rfl), (wm_1 (i := 1) rfl rfl)⟩, by decide, by decide, by decide +kernel⟩
set_option maxRecDepth 20000 in
theorem k_X_248 : LkV RX 248 yX_rotate cX_rotate 2 none 0 := ⟨⟨(wm_2 (i := 36) rfl rfl), (wm_2 (i := 33) rfl rfl), (wm_2 (i := 35) rfl rfl), (wm_0 (i := 33) rfl rfl), (wm_1 (i := 1) rfl rfl)⟩, by decide, by decide, by decide +kernel⟩
set_option maxRecDepth 20000 in
theorem k_X_79 : LkN yK_reset cK_reset 1 none 0 := ⟨⟨(wm_1 (i := 113) rfl rfl), (wm_1 (i := 112) rfl rfl), (wm_0 (i := 0) rfl rfl), (wm_1 (i := 2) rfl rfl)⟩, by decide, by decide, by decide +kernel⟩
set_option maxRecDepth 20000 in
theorem k_X_82 : LkN yP_reset cP_reset 1 none 0 := ⟨⟨(wm_1 (i := 117) rfl rfl), (wm_1 (i := 116) rfl rfl), (wm_0 (i := 1) rfl rfl), (wm_1 (i := 3) rfl rfl)⟩, by decide, by decide, by decide +kernel⟩
set_option maxRecDepth 20000 in
theorem k_X_98 : LkN yK_press cK_press 2 none 1 := ⟨⟨(wm_1 (i := 156) rfl rfl), (wm_1 (i := 155) rfl rfl), (wm_0 (i := 4) rfl rfl), (wm_1 (i := 2) rfl rfl)⟩, by decide, by decide, by decide +kernel⟩
set_option maxRecDepth 20000 in
theorem k_X_101 : LkN yP_isFull cP_isFull 1 (some .boolean) 0 := ⟨⟨(wm_1 (i := 164) rfl rfl), (wm_1 (i := 163) rfl rfl), (wm_0 (i := 5) rfl rfl), (wm_1 (i := 3) rfl rfl)⟩, by decide, by decide, by decide +kernel⟩
set_option maxRecDepth 20000 in
theorem k_X_124 : LkN yP_byteAt cP_byteAt 2 (some .int) 1 := ⟨⟨(wm_2 (i := 119) rfl rfl), (wm_2 (i := 118) rfl rfl), (wm_0 (i := 49) rfl rfl), (wm_1 (i := 3) rfl rfl)⟩, by decide, by decide, by decide +kernel⟩
set_option maxRecDepth 20000 in
theorem k_X_251 : LkN yP_print cP_print 2 none 1 := ⟨⟨(wm_2 (i := 88) rfl rfl), (wm_2 (i := 87) rfl rfl), (wm_0 (i := 46) rfl rfl), (wm_1 (i := 3) rfl rfl)⟩, by decide, by decide, by decide +kernel⟩
theorem dl_ {A : Nat → Prop} {w1 w2 : va_W} (h : va_D A (w1 ++ w2)) : va_D A w1 := by
  have g : ∀ (i : Nat) (q : Nat × va_E), w1[i]? = some q → (w1 ++ w2)[i]? = some q := fun i q hi => by
    rw [List.getElem?_append_left (List.getElem?_eq_some_iff.mp hi).1]; exact hi
  exact ⟨fun i j p q hi hj e => h.1 i j p q (g i p hi) (g j q hj) e, fun k q hk => h.2 k q (g k q hk)⟩
theorem dr_g {w1 w2 : va_W} (i : Nat) (q : Nat × va_E) (hi : w2[i]? = some q) : (w1 ++ w2)[w1.length + i]? = some q := by
  rw [List.getElem?_append_right (Nat.le_add_right _ _), Nat.add_sub_cancel_left]; exact hi
theorem dr_ {A : Nat → Prop} {w1 w2 : va_W} (h : va_D A (w1 ++ w2)) : va_D A w2 :=
  ⟨fun i j p q hi hj e => by have := h.1 _ _ p q (dr_g i p hi) (dr_g j q hj) e; omega, fun k q hk => h.2 _ q (dr_g k q hk)⟩
theorem dx_ {A : Nat → Prop} {w1 w2 : va_W} (h : va_D A (w1 ++ w2)) (i j : Nat) (p q : Nat × va_E) (hi : w1[i]? = some p) (hj : w2[j]? = some q) : p.1 ≠ q.1 := fun e => by
  have hlt := (List.getElem?_eq_some_iff.mp hi).1
  have h1 : (w1 ++ w2)[i]? = some p := by rw [List.getElem?_append_left hlt]; exact hi
  have := h.1 _ _ p q h1 (dr_g j q hj) e
  omega
theorem ds_ {A : Nat → Prop} {w1 w2 : va_W} (h : va_D A (w1 ++ w2)) : va_D A (w2 ++ w1) := va_D.app (dr_ h) (dl_ h) (fun i j p q hi hj e => dx_ h j i q p hj hi e.symm)
theorem k2_ {A : Nat → Prop} {D : va_G} {w1 w2 w3 : va_W} {H H1 : Heap} (hD : va_D A (w1 ++ w2)) (hP2 : va_P D vwCl w2 H) (hk : ∀ q : Nat, q < H.size → ¬ va_A w1 H.size q → H1[q]? = H[q]?) (hD1 : va_D (va_A w1 H.size) w3) (hF : ∀ q, va_A w1 H.size q → A q) : va_P D vwCl w2 H1 ∧ va_D A (w3 ++ w2) := by
  refine ⟨hP2.kept (fun k q hq => hk q.1 (hP2 k q hq).lt (fun z => ?_)), va_D.app (hD1.weaken (fun _ q _ h => hF q.1 h)) (dr_ hD) (fun i j x y hx hy e => ?_)⟩
  · rcases z with ⟨k1, e, z⟩ | z
    · exact dx_ hD k1 k (q.1, e) q z hq rfl
    · have := (hP2 k q hq).lt; omega
  · rcases hD1.2 i x hx with ⟨k1, e1, z⟩ | z
    · exact dx_ hD k1 j (x.1, e1) y z hy e
    · have := (hP2 j y hy).lt; omega
section Calls2
variable {p : Program} {l : Launch} {e : Env} {R : Room} {s : State} {m : MethodId} {args : Array Value} {below : List Frame} {meth : Method} {c : Code} {H : Heap} {locs : List Loc} {cells slots : Nat} {Q : State → Prop}
variable {cc : ByteArray} {i nL : Nat} {ls : Array Slot} {rest : List Value} {D : va_G} {A : Nat → Prop} {H0 : Heap} {own : String}
variable {w : St → va_W} {ty : List (ClassId × FieldType)} {u : St} {y : MethodName} {ccy : ByteArray} {mL d n idx b : Nat} {rt : Option FieldType} {As st0 : List Value} {w2 : va_W}
theorem cl2_i {post : Int32 → St → Prop} (S : CallFix p m c cc nL s args wsA own) (hN : nw s) (hK : va_K D vwCl ty s) (hP : va_P D vwCl (w u) H) (hP2 : va_P D vwCl w2 H) (hD : va_D A (w u ++ w2)) (hS : va_S A H0 H locs) (hA : ∀ q, H0.size ≤ q → A q) (hz : ls.size = nL)
    (hM : MI l D w ty H.size y ccy mL rt d (.ref b :: As) u post) (hL : LkV own idx y ccy mL rt n) (hb : ∃ cell : Cell, H[b]? = some cell ∧ cell.vm.isStatics = false ∧ s.vm.findClass y.cls = some cell.cls)
    (hR : d + 1 ≤ R.frames ∧ 8 + (mL + 11) + 40 * d ≤ R.locals) (hn : As.length = n) (hst : st0 = As.reverse ++ .ref b :: rest) (hW : (rest.map fun v => v.category).sum ≤ 8) (hcs : cells ≤ R.cells ∧ slots ≤ R.slots) (hdg : decode cc i = .ok (.invokevirtual idx, 3))
    (kk : ∀ (r : Int32) (u1 : St) (H1 : Heap) (locs1 : List Loc), post r u1 → va_P D vwCl (w u1) H1 → va_P D vwCl w2 H1 → va_D A (w u1 ++ w2) → va_S A H0 H1 locs1 → W p l e R s m args below meth c H1 locs1 cells slots Q (F0 m (i + 3) ls (.int r :: rest))) : W p l e R s m args below meth c H locs cells slots Q (F0 m i ls st0) := by
  obtain ⟨⟨c1, c2, c3, c4, c5⟩, e1, e2, e3⟩ := hL
  have hts := S.2.2.2.2
  have hF := fr_w (dl_ hD) hS hA
  refine va_calli (va_runV (As := As) (rest := rest) S hM ⟨callB_of n hts (wg_c c1) rfl rfl rfl (hts _ c5) (hts _ c2) ⟨e1, e2, e3⟩ hR, hts _ c3, hts _ c4⟩ ⟨bl_w, hb, pr_w hN hK hP (dl_ hD)⟩ rfl hn hz hst (lv_room hW) hdg hcs) hS (fun q _ h => hF q h) hF (fun r u1 t H1 locs1 ht hvm hw hB hz1 hk1 hS1 => ?_)
  obtain ⟨hP1, hK1, hD1⟩ := hB
  rw [ht] at hP1
  obtain ⟨z1, z2⟩ := k2_ hD hP2 hk1 hD1 hF
  exact kk r u1 H1 locs1 hw hP1 z1 z2 hS1
theorem cl2_v {post : St → Prop} (S : CallFix p m c cc nL s args wsA own) (hN : nw s) (hK : va_K D vwCl ty s) (hP : va_P D vwCl (w u) H) (hP2 : va_P D vwCl w2 H) (hD : va_D A (w u ++ w2)) (hS : va_S A H0 H locs) (hA : ∀ q, H0.size ≤ q → A q) (hz : ls.size = nL)
    (hM : MV l D w ty H.size y ccy mL d (.ref b :: As) u post) (hL : LkV own idx y ccy mL none n) (hb : ∃ cell : Cell, H[b]? = some cell ∧ cell.vm.isStatics = false ∧ s.vm.findClass y.cls = some cell.cls)
    (hR : d + 1 ≤ R.frames ∧ 8 + (mL + 11) + 40 * d ≤ R.locals) (hn : As.length = n) (hst : st0 = As.reverse ++ .ref b :: rest) (hW : (rest.map fun v => v.category).sum ≤ 8) (hcs : cells ≤ R.cells ∧ slots ≤ R.slots) (hdg : decode cc i = .ok (.invokevirtual idx, 3))
    (kk : ∀ (u1 : St) (H1 : Heap) (locs1 : List Loc), post u1 → va_P D vwCl (w u1) H1 → va_P D vwCl w2 H1 → va_D A (w u1 ++ w2) → va_S A H0 H1 locs1 → W p l e R s m args below meth c H1 locs1 cells slots Q (F0 m (i + 3) ls rest)) : W p l e R s m args below meth c H locs cells slots Q (F0 m i ls st0) := by
  obtain ⟨⟨c1, c2, c3, c4, c5⟩, e1, e2, e3⟩ := hL
  have hts := S.2.2.2.2
  have hF := fr_w (dl_ hD) hS hA
  refine va_callv (va_runV (As := As) (rest := rest) S hM ⟨callB_of n hts (wg_c c1) rfl rfl rfl (hts _ c5) (hts _ c2) ⟨e1, e2, e3⟩ hR, hts _ c3, hts _ c4⟩ ⟨bl_w, hb, pr_w hN hK hP (dl_ hD)⟩ rfl hn hz hst (lv_room hW) hdg hcs) hS (fun q _ h => hF q h) hF (fun u1 t H1 locs1 ht hvm hw hB hz1 hk1 hS1 => ?_)
  obtain ⟨hP1, hK1, hD1⟩ := hB
  rw [ht] at hP1
  obtain ⟨z1, z2⟩ := k2_ hD hP2 hk1 hD1 hF
  exact kk u1 H1 locs1 hw hP1 z1 z2 hS1
end Calls2
