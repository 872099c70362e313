def an_ (q : Int32 × St) : Int32 × St := (if q.1 = 1 then 0 else q.1, q.2)
def stf (n : Nat) (u : St) : Int32 × St := an_ (sp n 19 (ms n u))
theorem sp_63 {n : Nat} {u : St} (I : Iv n u) : sp n 63 (ms n u) = sp n 19 (ms n u) := sp_eq 7 u I (rk_8 _) 63 19 (by decide) (by decide)
theorem iv_sp {n : Nat} : ∀ (k : Nat) (q : Int32 × St), Iv n q.2 → Iv n (sp n k q).2
  | 0, _, h => h
  | k + 1, q, h => by
    rw [sp]
    by_cases z : q.1 = 0
    · rw [if_pos z]
      exact iv_sp k _ (iv_ms h)
    · rw [if_neg z]
      exact h
theorem iv_stf {n : Nat} {u : St} (I : Iv n u) : Iv n (stf n u).2 := iv_sp 19 _ (iv_ms I)
def rnG (f : St → Int32 × St) : Nat → Int32 → St → Int32 × St
  | 0, md, u => (md, u)
  | k + 1, md, u => if (f u).1 = 0 then rnG f k (md + 1) (f u).2 else (md, (f u).2)
theorem rg_0 {f : St → Int32 × St} {md : Int32} {u : St} : rnG f 0 md u = (md, u) := rfl
theorem rg_s {f : St → Int32 × St} {k : Nat} {md : Int32} {u : St} (h : (f u).1 = 0) : rnG f (k + 1) md u = rnG f k (md + 1) (f u).2 := by
  rw [rnG, if_pos h]
theorem rg_x {f : St → Int32 × St} {k : Nat} {md : Int32} {u : St} (h : ¬ (f u).1 = 0) : rnG f (k + 1) md u = (md, (f u).2) := by
  rw [rnG, if_neg h]
theorem rg_I {f : St → Int32 × St} {P : St → Prop} (hf : ∀ u, P u → P (f u).2) (k : Nat) : ∀ (md : Int32) (u : St), P u → P (rnG f k md u).2 := by
  induction k with
  | zero => intro md u h; exact h
  | succ k ih =>
    intro md u h
    by_cases z : (f u).1 = 0
    · rw [rg_s z]; exact ih _ _ (hf u h)
    · rw [rg_x z]; exact hf u h
def rn (n : Nat) (k : Nat) (md : Int32) (u : St) : Int32 × St := rnG (stf n) k md u
theorem iv_rn {n : Nat} (k : Nat) (md : Int32) (u : St) (h : Iv n u) : Iv n (rn n k md u).2 := rg_I (f := stf n) (P := Iv n) (fun _ h => iv_stf h) k md u h
def run_ (n : Nat) (x : Int32) (u : St) : Int32 × St := if x < 0 ∨ ¬ x ≤ 500 then (-1, u) else rn n x.toNatClampNeg 0 u
theorem iv_run {n : Nat} {x : Int32} {u : St} (I : Iv n u) : Iv n (run_ n x u).2 := by
  unfold run_
  by_cases z : x < 0 ∨ ¬ x ≤ 500
  · rw [if_pos z]
    exact I
  · rw [if_neg z]
    exact iv_rn _ _ _ I
theorem sp_s {n k : Nat} {r : Int32} {u : St} (h : r = 0) : sp n (k + 1) (r, u) = sp n k (ms n u) := by
  rw [sp]
  exact if_pos h
theorem sp_x {n k : Nat} {r : Int32} {u : St} (h : ¬ r = 0) : sp n k (r, u) = (r, u) := sp_n (q := (r, u)) h k
theorem rn_s {n k : Nat} {md r : Int32} {u u1 : St} (hw : (r, u1) = stf n u) (h : r = 0) : rn n (k + 1) md u = rn n k (md + 1) u1 := by
  have e1 : r = (stf n u).1 := congrArg Prod.fst hw
  have e2 : u1 = (stf n u).2 := congrArg Prod.snd hw
  rw [e2]
  exact rg_s (f := stf n) (by rw [← e1]; exact h)
theorem rn_x {n k : Nat} {md r : Int32} {u u1 : St} (hw : (r, u1) = stf n u) (h : ¬ r = 0) : rn n (k + 1) md u = (md, u1) := by
  have e1 : r = (stf n u).1 := congrArg Prod.fst hw
  have e2 : u1 = (stf n u).2 := congrArg Prod.snd hw
  rw [e2]
  exact rg_x (f := stf n) (by rw [← e1]; exact h)
theorem rn_0 {n : Nat} {md : Int32} {u : St} : rn n 0 md u = (md, u) := rfl
theorem i64 {j : Nat} (h : j < 64) : ¬ (64 : Int32) ≤ nI j := by
  have e : (64 : Int32) = nI 64 := by decide +kernel
  rw [e, nI_leI (by omega) (by omega)]
  omega
theorem i20 {j : Nat} (h : j < 20) : ¬ (20 : Int32) ≤ nI j := by
  have e : (20 : Int32) = nI 20 := by decide +kernel
  rw [e, nI_leI (by omega) (by omega)]
  omega
theorem inc_ (j : Nat) : nI j + Int32.ofInt 1 = nI (j + 1) := nI_1 j
theorem r500 {x : Int32} (h0 : ¬ x < 0) (h1 : x ≤ 500) : ∃ N : Nat, N ≤ 500 ∧ x = nI N := nI_of2 (M := 500) (by decide +kernel) h0 h1
