/-! constructors: the same cells, as they come one by one. pr: which references stand already -/
abbrev mP : Type := Nat → Nat → Bool
def cFs (G : mG) (S : mS) (pr : mP) (a ci : Nat) : List Value := (List.range (fN ci)).map (fun k => if isI ci k then .int (S a k) else if pr a k then rv G (rf a k) else .null)
def cellQ (G : mG) (S : mS) (pr : mP) (a : Nat) : va_E := if kd a < 6 then .inr (kd a, cFs G S pr a (kd a)) else .inl (G.2.2.1 (kd a), ln a, if kd a < 9 then .inl (S a) else .inr (.inr (.inr (.inr (fun k => if pr a k then some (G.2.2.2 (rf a k)) else none)))))
def mB (G : mG) (S : mS) (pr : mP) (n : Nat) : va_W := (List.range n).map (fun a => (G.2.2.2 a, cellQ G S pr a))
theorem mB_at {G : mG} {S : mS} {pr : mP} {n a : Nat} (h : a < n) : (mB G S pr n)[a]? = some (G.2.2.2 a, cellQ G S pr a) := by simp [mB, h]
theorem mB_no {G : mG} {S : mS} {pr : mP} {n a : Nat} (h : ¬ a < n) : (mB G S pr n)[a]? = none := by simp [mB]; omega
theorem mB_push {G : mG} {S : mS} {pr : mP} {n : Nat} : mB G S pr n ++ [(G.2.2.2 n, cellQ G S pr n)] = mB G S pr (n + 1) := by unfold mB; rw [List.range_succ, List.map_append]; rfl
theorem cellQ_eq {G : mG} {S S' : mS} {pr pr' : mP} {b : Nat} (h : S' b = S b) (h2 : pr' b = pr b) : cellQ G S' pr' b = cellQ G S pr b := by unfold cellQ cFs; rw [h, h2]
theorem mB_set {G : mG} {S S' : mS} {pr pr' : mP} {n a : Nat} (h : a < n) (hS : ∀ b, b ≠ a → S' b = S b) (hp : ∀ b, b ≠ a → pr' b = pr b) : (mB G S pr n).set a (G.2.2.2 a, cellQ G S' pr' a) = mB G S' pr' n := by
  refine List.ext_getElem? fun k => ?_
  rw [List.getElem?_set]
  by_cases hk : k < n
  · rw [mB_at hk, mB_at hk]
    by_cases e : a = k
    · subst e; simp [mB, hk]
    · rw [if_neg e, cellQ_eq (hS k (fun z => e z.symm)) (hp k (fun z => e z.symm))]
  · rw [mB_no hk, mB_no hk, if_neg (by omega)]
theorem mB_all {G : mG} {S : mS} : mB G S (fun _ _ => true) 190 = mW G S := by
  unfold mB mW
  refine List.map_congr_left fun a _ => ?_
  unfold cellQ cellE cFs mFs
  simp
theorem cellQ_o {G : mG} {S : mS} {pr : mP} {a ci : Nat} (h : kd a = ci) (hc : ci < 6) : cellQ G S pr a = .inr (ci, cFs G S pr a ci) := by subst h; unfold cellQ; rw [if_pos hc]
theorem cellQ_i {G : mG} {S : mS} {pr : mP} {a t : Nat} (h : kd a = t) (h1 : ¬ t < 6) (h2 : t < 9) : cellQ G S pr a = .inl (G.2.2.1 t, ln a, .inl (S a)) := by subst h; unfold cellQ; rw [if_neg h1, if_pos h2]
theorem cellQ_r {G : mG} {S : mS} {pr : mP} {a t : Nat} (h : kd a = t) (h2 : ¬ t < 9) : cellQ G S pr a = .inl (G.2.2.1 t, ln a, .inr (.inr (.inr (.inr (fun k => if pr a k then some (G.2.2.2 (rf a k)) else none))))) := by subst h; unfold cellQ; rw [if_neg (by omega), if_neg h2]
/-- a reference set -/
def upP (pr : mP) (a k : Nat) : mP := fun b j => if b = a ∧ j = k then true else pr b j
theorem upP_n {pr : mP} {a k b : Nat} (h : b ≠ a) : upP pr a k b = pr b := by funext j; unfold upP; rw [if_neg (fun z => h z.1)]
theorem cFs_at {G : mG} {S : mS} {pr : mP} {a ci k : Nat} (h : k < fN ci) : (cFs G S pr a ci)[k]? = some (if isI ci k then .int (S a k) else if pr a k then rv G (rf a k) else .null) := by simp [cFs, h]
theorem cFs_len {G : mG} {S : mS} {pr : mP} {a ci : Nat} : (cFs G S pr a ci).length = fN ci := by simp [cFs]
theorem cFs_set {G : mG} {S : mS} {pr : mP} {a ci k : Nat} (hi : isI ci k = false) : (cFs G S pr a ci).set k (rv G (rf a k)) = cFs G S (upP pr a k) a ci := by
  refine List.ext_getElem? fun j => ?_
  rw [List.getElem?_set]
  by_cases hj : j < fN ci
  · rw [cFs_at hj, cFs_at hj]
    by_cases e : k = j
    · subst e; simp [cFs, hj, hi, upP]
    · have e2 : ¬ (j = k) := fun z => e z.symm
      rw [if_neg e]; simp [upP, e2]
  · have h1 : ∀ pr', (cFs G S pr' a ci)[j]? = none := fun pr' => by simp [cFs]; omega
    rw [h1, h1]
    by_cases e : k = j
    · subst e; rw [if_pos rfl, if_neg (by rw [cFs_len]; exact hj)]
    · rw [if_neg e]
theorem cFs_new {G : mG} {S : mS} {pr : mP} {a ci : Nat} (hc : ci < 6) (h0 : ∀ k, S a k = 0) (h1 : ∀ k, pr a k = false) : ∀ j, j < fN ci → defaultValue (fY ci j) = vp_V (cFs G S pr a ci) j := by
  intro j hj
  have e : vp_V (cFs G S pr a ci) j = if isI ci j then .int 0 else .null := by
    unfold vp_V
    rw [List.getD_eq_getElem?_getD, cFs_at hj, h0, h1]
    rfl
  rw [e]
  clear e
  revert j
  rcases (by omega : ci = 0 ∨ ci = 1 ∨ ci = 2 ∨ ci = 3 ∨ ci = 4 ∨ ci = 5) with rfl | rfl | rfl | rfl | rfl | rfl
  all_goals decide +kernel
def vAO (U : State) : Prop := va_AO "ScoutGates$State" U ∧ va_AO "ScoutGates$Troop" U
theorem vAO.moved {u U : State} (hvm : u.vm.Alike U.vm) (h : vAO u) : vAO U := ⟨h.1.moved hvm, h.2.moved hvm⟩
def mRb (d nc ns : Nat) : Room := { frames := d, cells := nc, slots := ns, locals := 30 * d }
/-- the world grows to n1 cells, so that R -/
def bPost (G : mG) (R : mS → mP → Prop) (n1 : Nat) (A : Nat → Prop) : Array Value → State → Outcome → State → Prop := va_Qv (fun u : mS × mP => R u.1 u.2) (fun u t => t.heap.size = G.2.2.2 n1 ∧ va_P G.2.1 mcl (mB G u.1 u.2 n1) t.heap ∧ va_K G.2.1 mcl (mTy G) t ∧ va_D A (mB G u.1 u.2 n1)) A
/-- the triple of a constructor of the cell a; nc cells of ns places come -/
def CallI (G : mG) (d nc ns : Nat) (M : mM) (a : Nat) (S : mS) (pr : mP) (n : Nat) (R : mS → mP → Prop) (n1 : Nat) : Prop :=
  Met G.1 M.1 (mWs M) (mRb d nc ns) (va_Pc [rv G a] (fun U => U.heap.size = G.2.2.2 n ∧ va_P G.2.1 mcl (mB G S pr n) U.heap ∧ va_K G.2.1 mcl (mTy G) U ∧ vAO U ∧ va_D (fun _ => True) (mB G S pr n))) (bPost G R n1 (va_A (mB G S pr n) (G.2.2.2 n))) nc ns (va_A (mB G S pr n) (G.2.2.2 n))
def adG (G : mG) : Prop := ∀ a, G.2.2.2 (a + 1) = G.2.2.2 a + 1
def Bt (G : mG) (d nc ns : Nat) (M : mM) (R : mS → mP → Prop) (n1 : Nat) (pc : Nat) (lo : List (Nat × Value)) (st : List Value) (S : mS) (pr : mP) (n kc ks : Nat) : Prop :=
  ∀ (p : Program) (e : Env) (s : State) (m : MethodId) (args : Array Value) (below : List Frame) (meth : Method) (c : Code) (A : Nat → Prop) (H : Heap) (locs : List Loc) (ls : Array Slot),
    mCx G M A p s m args meth c → (meth.name = "<init>" ∧ vAO s) → lv_has ls M.2.2.1 lo → H.size = G.2.2.2 n → va_P G.2.1 mcl (mB G S pr n) H → va_D A (mB G S pr n) → va_S A s.heap H locs →
    W p G.1 e (mRb d nc ns) s m args below meth c H locs kc ks (MQ below (bPost G R n1 A) args s nc ns A) (F0 m pc ls st)
section INIT
variable {G : mG} {d nc ns : Nat} {M : mM} {S : mS} {pr : mP} {R : mS → mP → Prop} {n1 n kc ks pc : Nat} {lo : List (Nat × Value)} {st : List Value}
theorem calli_of {a : Nat} (hy : plainName M.1.cls = true) (hy2 : M.1.name = "<init>") (hn : 1 ≤ M.2.2.1) (hl : lv_args 0 [rv G a] = lo) (h : Bt G d nc ns M R n1 0 lo [] S pr n 0 0) : CallI G d nc ns M a S pr n R n1 := by
  refine Met.ofW (cc := M.2.1) (maxL := M.2.2.1) (ret := M.2.2.2) hy rfl ?_
  intro p e s m args below meth c s₁ B hml hv
  obtain ⟨rfl, hsz, hP, hK, hO, hD0⟩ := hv
  rw [lg_entry_eq]
  subst hl
  rw [← hsz]
  exact h p e s m _ below meth c _ s.heap [] _ ⟨B.exec, B.bytes, hml, B.returns, findClass_of_methodNamed B.named, atoms_spec (ws := mWs M) B.pre, B.notSynchronized, hK, fun q hq => Or.inr hq⟩ ⟨(name_of_methodNamed B.named B.method).1.trans hy2, hO⟩ (lv_entry _ hn) hsz hP hD0.self va_S.rf
theorem b_iconst {i : Int} {v : Int32} (hd : decode M.2.1 pc = .ok (.iconst i, 1)) (hv : Int32.ofInt i = v) (k : Bt G d nc ns M R n1 (pc + 1) lo (.int v :: st) S pr n kc ks) : Bt G d nc ns M R n1 pc lo st S pr n kc ks := by
  intro p e s m args below meth c A H locs ls C hN hl hz hP hD hS
  exact lv_iconst C.1 C.2.1 hd hv (k _ _ _ _ _ _ _ _ _ _ _ _ C hN hl hz hP hD hS)
theorem b_bipush {i : Int} {v : Int32} (hd : decode M.2.1 pc = .ok (.bipush i, 2)) (hv : (Int8.ofInt i).toInt32 = v) (k : Bt G d nc ns M R n1 (pc + 2) lo (.int v :: st) S pr n kc ks) : Bt G d nc ns M R n1 pc lo st S pr n kc ks := by
  intro p e s m args below meth c A H locs ls C hN hl hz hP hD hS
  exact lv_bipush C.1 C.2.1 hd hv (k _ _ _ _ _ _ _ _ _ _ _ _ C hN hl hz hP hD hS)
theorem b_sipush {i : Int} {v : Int32} (hd : decode M.2.1 pc = .ok (.sipush i, 3)) (hv : (Int16.ofInt i).toInt32 = v) (k : Bt G d nc ns M R n1 (pc + 3) lo (.int v :: st) S pr n kc ks) : Bt G d nc ns M R n1 pc lo st S pr n kc ks := by
  intro p e s m args below meth c A H locs ls C hN hl hz hP hD hS
  exact lv_sipush C.1 C.2.1 hd hv (k _ _ _ _ _ _ _ _ _ _ _ _ C hN hl hz hP hD hS)
theorem b_aload_n {i : Fin 4} {x : Nat} (hd : decode M.2.1 pc = .ok (.aload_n i, 1)) (j : Nat) (hg : lo[j]? = some ((i : Nat), rv G x)) (k : Bt G d nc ns M R n1 (pc + 1) lo (rv G x :: st) S pr n kc ks) : Bt G d nc ns M R n1 pc lo st S pr n kc ks := by
  intro p e s m args below meth c A H locs ls C hN hl hz hP hD hS
  exact lv_aload_n C.1 C.2.1 hd rfl (lv_at hl j hg) (k _ _ _ _ _ _ _ _ _ _ _ _ C hN hl hz hP hD hS)
theorem b_iload_n {i : Fin 4} {x : Int32} (hd : decode M.2.1 pc = .ok (.iload_n i, 1)) (j : Nat) (hg : lo[j]? = some ((i : Nat), .int x)) (k : Bt G d nc ns M R n1 (pc + 1) lo (.int x :: st) S pr n kc ks) : Bt G d nc ns M R n1 pc lo st S pr n kc ks := by
  intro p e s m args below meth c A H locs ls C hN hl hz hP hD hS
  exact lv_iload_n C.1 C.2.1 hd rfl (lv_at hl j hg) (k _ _ _ _ _ _ _ _ _ _ _ _ C hN hl hz hP hD hS)
theorem b_istore_n {i : Fin 4} {j : Nat} {x : Int32} {lo2 : List (Nat × Value)} (hd : decode M.2.1 pc = .ok (.istore_n i, 1)) (hi : (i : Nat) = j) (hn : j < M.2.2.1) (ps : List Nat) (hs : lv_pick ((j, .int x) :: lo.filter (fun q => !(q.1 == j) && !(q.1 + 1 == j && q.2.category == 2))) ps = lo2) (k : Bt G d nc ns M R n1 (pc + 1) lo2 st S pr n kc ks) : Bt G d nc ns M R n1 pc lo (.int x :: st) S pr n kc ks := by
  intro p e s m args below meth c A H locs ls C hN hl hz hP hD hS
  exact lv_istore_n C.1 C.2.1 hd hi hl hn rfl (fun ls' hl => k _ _ _ _ _ _ _ _ _ _ _ _ C hN (lv_sub hl ps hs) hz hP hD hS)
theorem b_iinc {i : Nat} {t : Int} {x w : Int32} {lo2 : List (Nat × Value)} (hd : decode M.2.1 pc = .ok (.iinc i t, 3)) (j : Nat) (hg : lo[j]? = some (i, .int x)) (hw : Int32.ofInt t = w) (hn : i < M.2.2.1) (ps : List Nat) (hs : lv_pick ((i, .int (x + w)) :: lo.filter (fun q => !(q.1 == i) && !(q.1 + 1 == i && q.2.category == 2))) ps = lo2) (k : Bt G d nc ns M R n1 (pc + 3) lo2 st S pr n kc ks) : Bt G d nc ns M R n1 pc lo st S pr n kc ks := by
  intro p e s m args below meth c A H locs ls C hN hl hz hP hD hS
  subst hw
  exact lv_iinc C.1 C.2.1 hd hl (k := j) hg rfl hn rfl (fun ls' hl => k _ _ _ _ _ _ _ _ _ _ _ _ C hN (lv_sub hl ps hs) hz hP hD hS)
theorem b_goto {off : Int} {tgt : Nat} (hd : decode M.2.1 pc = .ok (.goto off, 3)) (ht : (pc : Int) + off = (tgt : Int)) (k : Bt G d nc ns M R n1 tgt lo st S pr n kc ks) : Bt G d nc ns M R n1 pc lo st S pr n kc ks := by
  intro p e s m args below meth c A H locs ls C hN hl hz hP hD hS
  exact lv_goto C.1 C.2.1 hd ht (k _ _ _ _ _ _ _ _ _ _ _ _ C hN hl hz hP hD hS)
theorem b_icmp_ge {x y : Int32} {off : Int} {tgt : Nat} (hd : decode M.2.1 pc = .ok (.if_icmp .ge off, 3)) (ht : (pc : Int) + off = (tgt : Int)) (kt : y ≤ x → Bt G d nc ns M R n1 tgt lo st S pr n kc ks) (kf : ¬ (y ≤ x) → Bt G d nc ns M R n1 (pc + 3) lo st S pr n kc ks) : Bt G d nc ns M R n1 pc lo (.int y :: .int x :: st) S pr n kc ks := by
  intro p e s m args below meth c A H locs ls C hN hl hz hP hD hS
  exact lv_icmp_ge C.1 C.2.1 hd ht (fun z => kt z _ _ _ _ _ _ _ _ _ _ _ _ C hN hl hz hP hD hS) (fun z => kf z _ _ _ _ _ _ _ _ _ _ _ _ C hN hl hz hP hD hS)
theorem b_dup {v : Value} (hd : decode M.2.1 pc = .ok (.dup, 1)) (hc : v.category = 1) (k : Bt G d nc ns M R n1 (pc + 1) lo (v :: v :: st) S pr n kc ks) : Bt G d nc ns M R n1 pc lo (v :: st) S pr n kc ks := by
  intro p e s m args below meth c A H locs ls C hN hl hz hP hD hS
  exact lv_dup C.1 C.2.1 hd hc (k _ _ _ _ _ _ _ _ _ _ _ _ C hN hl hz hP hD hS)
theorem b_vret (hr : M.2.2.2 = none) (hd : decode M.2.1 pc = .ok (.return_, 1)) (hq : R S pr) : Bt G d nc ns M R n pc lo [] S pr n nc ns := by
  intro p e s m args below meth c A H locs ls C hN hl hz hP hD hS
  refine W.vret C.1 C.2.1 (C.2.2.2.1.trans hr) (fun t ht hW => ?_) hS.2.2 hd C.2.2.2.2.2.2.1
  exact ⟨⟨(S, pr), rfl, hq, by rw [ht]; exact hz, by rw [ht]; exact hP, va_K.moved hW.alike C.2.2.2.2.2.2.2.1, hD⟩, hS.F ht⟩
theorem b_getR {i ci f a b : Nat} (hk : kd a = ci) (hf : FL M.1.cls i ci f) (hi : isI ci f = false) (hs : fT ci f = (fR ci, (fT ci f).2)) (hd : decode M.2.1 pc = .ok (.getfield i, 3)) (ha : a < n) (hp : pr a f = true) (hb : rf a f = b) (k : Bt G d nc ns M R n1 (pc + 3) lo (rv G b :: st) S pr n kc ks) : Bt G d nc ns M R n1 pc lo (rv G a :: st) S pr n kc ks := by
  intro p e s m args below meth c A H locs ls C hN hl hz hP hD hS
  subst hb
  exact va_get (D := G.2.1) (ci := ci) (C := fR ci) (T := fT ci) (N := fN ci) C.1 C.2.1 C.2.2.2.2.2.1 (fun w hw => List.mem_cons_of_mem _ (cls_in ci hf.1.1 w hw)) C.2.2.2.2.1 C.2.2.2.2.2.2.2.1 hP a (by rw [mB_at ha, cellQ_o hk hf.1.1]) (cls_at ci hf.1.1) f hf.1.2 (C.2.2.2.2.2.1 _ (List.mem_cons_of_mem _ hf.2)) (fun x hx => by rw [hs] at hx; exact hx) (by rw [cFs_at hf.1.2, hi, hp]; rfl) hd (k _ _ _ _ _ _ _ _ _ _ _ _ C hN hl hz hP hD hS)
end INIT
