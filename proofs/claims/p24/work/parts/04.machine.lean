/-! a layer over W: methods over numbers. Cells have virtual addresses 0..198 (the order in which the two constructors make them); what a cell holds of numbers is a function, its references never change -/
/-- the tables' words that a call may hand on -/
def gtbl : List Cond := lw_tbl.filter goodWord
theorem mem_g {w : Cond} (i : Nat) (h : lw_tbl[i]? = some w) (hg : goodWord w = true) : w ∈ gtbl := List.mem_filter.mpr ⟨List.mem_of_getElem? h, hg⟩
theorem all_g {l : List Cond} (h : l.all (fun w => decide (w ∈ lw_tbl) && goodWord w) = true) : ∀ w ∈ l, w ∈ gtbl := fun w hw => by
  have h1 := List.all_eq_true.mp h w hw
  simp only [Bool.and_eq_true, decide_eq_true_eq] at h1
  exact List.mem_filter.mpr h1
abbrev mS : Type := Nat → Nat → Int32
abbrev mG : Type := Launch × va_G × (Nat → ClassId) × (Nat → Nat)
def rv (G : mG) (a : Nat) : Value := .ref (G.2.2.2 a)
def kdL : List Nat := [4, 2, 6, 10, 3, 6, 6, 3, 6, 6, 3, 6, 6, 3, 6, 6, 3, 6, 6, 0, 9, 2, 6, 10, 3, 6, 6, 3, 6, 6, 3, 6, 6, 3, 6, 6, 3, 6, 6, 2, 6, 10, 3, 6, 6, 3, 6, 6, 3, 6, 6, 3, 6, 6, 3, 6, 6, 2, 6, 10, 3, 6, 6, 3, 6, 6, 3, 6, 6, 3, 6, 6, 3, 6, 6, 2, 6, 10, 3, 6, 6, 3, 6, 6, 3, 6, 6, 3, 6, 6, 3, 6, 6, 2, 6, 10, 3, 6, 6, 3, 6, 6, 3, 6, 6, 3, 6, 6, 3, 6, 6, 2, 6, 10, 3, 6, 6, 3, 6, 6, 3, 6, 6, 3, 6, 6, 3, 6, 6, 2, 6, 10, 3, 6, 6, 3, 6, 6, 3, 6, 6, 3, 6, 6, 3, 6, 6, 9, 2, 6, 10, 3, 6, 6, 3, 6, 6, 3, 6, 6, 3, 6, 6, 3, 6, 6, 2, 6, 10, 3, 6, 6, 3, 6, 6, 3, 6, 6, 3, 6, 6, 3, 6, 6, 8, 1, 7, 3, 6, 6]
def lnL : List Nat := [0, 0, 2, 5, 0, 16, 16, 0, 16, 16, 0, 16, 16, 0, 16, 16, 0, 16, 16, 0, 7, 0, 2, 5, 0, 16, 16, 0, 16, 16, 0, 16, 16, 0, 16, 16, 0, 16, 16, 0, 2, 5, 0, 16, 16, 0, 16, 16, 0, 16, 16, 0, 16, 16, 0, 16, 16, 0, 2, 5, 0, 16, 16, 0, 16, 16, 0, 16, 16, 0, 16, 16, 0, 16, 16, 0, 2, 5, 0, 16, 16, 0, 16, 16, 0, 16, 16, 0, 16, 16, 0, 16, 16, 0, 2, 5, 0, 16, 16, 0, 16, 16, 0, 16, 16, 0, 16, 16, 0, 16, 16, 0, 2, 5, 0, 16, 16, 0, 16, 16, 0, 16, 16, 0, 16, 16, 0, 16, 16, 0, 2, 5, 0, 16, 16, 0, 16, 16, 0, 16, 16, 0, 16, 16, 0, 16, 16, 2, 0, 2, 5, 0, 16, 16, 0, 16, 16, 0, 16, 16, 0, 16, 16, 0, 16, 16, 0, 2, 5, 0, 16, 16, 0, 16, 16, 0, 16, 16, 0, 16, 16, 0, 16, 16, 2, 0, 80, 0, 16, 16]
/-- the kind of a cell: 0 to 5 an object of that class, 6 ints, 7 chars, 8 booleans, 9 States, 10 Troops -/
def kd (a : Nat) : Nat := kdL.getD a 99
def ln (a : Nat) : Nat := lnL.getD a 0
/-- where a reference leads -/
def rf (a k : Nat) : Nat := match kd a with
  | 0 => 20
  | 1 => 186
  | 2 => a + 1 + k
  | 3 => a + k - 9
  | 4 => [1, 19, 147, 184, 185, 187].getD k 0
  | 9 => a + 1 + 18 * k
  | 10 => a + 1 + 3 * k
  | _ => 0
def mcl : List vw_C := [(RX0, TX0, 3), (RX1, TX1, 7), (RX2, TX2, 5), (RX3, TX3, 12), (RX4, TX4, 6), (RX4, TX4, 6)]
def fR (ci : Nat) : String := match ci with | 0 => RX0 | 1 => RX1 | 2 => RX2 | 3 => RX3 | _ => RX4
def fT (ci : Nat) : u_T := match ci with | 0 => TX0 | 1 => TX1 | 2 => TX2 | 3 => TX3 | _ => TX4
def fN (ci : Nat) : Nat := match ci with | 0 => 3 | 1 => 7 | 2 => 5 | 3 => 12 | _ => 6
def fY (ci : Nat) : Nat → FieldType := match ci with | 0 => tyX0 | 1 => tyX1 | 2 => tyX2 | 3 => tyX3 | _ => tyX4
/-- whether a field is a number -/
def isI (ci k : Nat) : Bool := match ci with
  | 0 => Nat.ble 1 k
  | 1 => Nat.ble 1 k
  | 2 => Nat.ble 2 k
  | 3 => Nat.ble (k + 1) 10
  | 4 => false
  | _ => false
def mFs (G : mG) (S : mS) (a ci : Nat) : List Value := (List.range (fN ci)).map (fun k => if isI ci k then .int (S a k) else rv G (rf a k))
def cellE (G : mG) (S : mS) (a : Nat) : va_E := if kd a < 6 then .inr (kd a, mFs G S a (kd a)) else .inl (G.2.2.1 (kd a), ln a, if kd a < 9 then .inl (S a) else .inr (.inr (.inr (.inr (fun k => some (G.2.2.2 (rf a k)))))))
def mW (G : mG) (S : mS) : va_W := (List.range 190).map (fun a => (G.2.2.2 a, cellE G S a))
def mTy (G : mG) : List (ClassId × FieldType) := [(G.2.2.1 6, .int), (G.2.2.1 7, .char), (G.2.2.1 8, .boolean), (G.2.2.1 9, .object "ScoutGates$State"), (G.2.2.1 10, .object "ScoutGates$Troop")]
def up1 (S : mS) (a : Nat) (f : Nat → Int32) : mS := fun b => if b = a then f else S b
theorem up1_s (S : mS) (a : Nat) (f : Nat → Int32) : up1 S a f a = f := by simp [up1]
theorem up1_n {S : mS} {a b : Nat} {f : Nat → Int32} (h : b ≠ a) : up1 S a f b = S b := by simp [up1, h]
theorem kd_lt {a : Nat} (h : kd a ≠ 99) : a < 190 := by
  refine Nat.not_le.mp fun q => h ?_
  unfold kd
  rw [List.getD_eq_getElem?_getD, List.getElem?_eq_none (by exact q)]
  rfl
theorem mW_at (G : mG) (S : mS) {a : Nat} (h : a < 190) : (mW G S)[a]? = some (G.2.2.2 a, cellE G S a) := by simp [mW, h]
theorem cellE_eq {G : mG} {S S' : mS} {b : Nat} (h : S' b = S b) : cellE G S' b = cellE G S b := by unfold cellE mFs; rw [h]
theorem mW_set (G : mG) {S S' : mS} {a : Nat} (h : a < 190) (hS : ∀ b, b ≠ a → S' b = S b) : (mW G S).set a (G.2.2.2 a, cellE G S' a) = mW G S' := by
  refine List.ext_getElem? fun k => ?_
  rw [List.getElem?_set]
  by_cases hk : k < 190
  · rw [mW_at G S' hk, mW_at G S hk]
    by_cases e : a = k
    · subst e; simp [mW, hk]
    · rw [if_neg e, cellE_eq (hS k (fun z => e z.symm))]
  · have h1 : (mW G S')[k]? = none := by simp [mW]; omega
    have h2 : (mW G S)[k]? = none := by simp [mW]; omega
    rw [h1, h2, if_neg (by omega)]
theorem cellE_o {G : mG} {S : mS} {a ci : Nat} (h : kd a = ci) (hc : ci < 6) : cellE G S a = .inr (ci, mFs G S a ci) := by subst h; unfold cellE; rw [if_pos hc]
theorem cellE_i {G : mG} {S : mS} {a t : Nat} (h : kd a = t) (h1 : ¬ t < 6) (h2 : t < 9) : cellE G S a = .inl (G.2.2.1 t, ln a, .inl (S a)) := by subst h; unfold cellE; rw [if_neg h1, if_pos h2]
theorem cellE_r {G : mG} {S : mS} {a t : Nat} (h : kd a = t) (h2 : ¬ t < 9) : cellE G S a = .inl (G.2.2.1 t, ln a, .inr (.inr (.inr (.inr (fun k => some (G.2.2.2 (rf a k))))))) := by subst h; unfold cellE; rw [if_neg (by omega), if_neg h2]
theorem mFs_at {G : mG} {S : mS} {a ci k : Nat} (h : k < fN ci) : (mFs G S a ci)[k]? = some (if isI ci k then .int (S a k) else rv G (rf a k)) := by simp [mFs, h]
theorem mFs_len {G : mG} {S : mS} {a ci : Nat} : (mFs G S a ci).length = fN ci := by simp [mFs]
theorem mFs_set {G : mG} {S : mS} {a ci k : Nat} {v : Int32} (hi : isI ci k = true) : (mFs G S a ci).set k (.int v) = mFs G (up1 S a (upd (S a) k v)) a ci := by
  refine List.ext_getElem? fun j => ?_
  rw [List.getElem?_set]
  by_cases hj : j < fN ci
  · rw [mFs_at hj, mFs_at hj]
    by_cases e : k = j
    · subst e; simp [mFs, hj, hi, up1, upd]
    · have e2 : j ≠ k := fun z => e z.symm
      rw [if_neg e]; simp [up1, upd, e2]
  · have h1 : ∀ S', (mFs G S' a ci)[j]? = none := fun S' => by simp [mFs]; omega
    rw [h1, h1]
    by_cases e : k = j
    · subst e; rw [if_pos rfl, if_neg (by rw [mFs_len]; exact hj)]
    · rw [if_neg e]
theorem cls_at : ∀ ci, ci < 6 → mcl[ci]? = some (fR ci, fT ci, fN ci) := by
  intro ci h
  match ci, h with
  | 0, _ => rfl
  | 1, _ => rfl
  | 2, _ => rfl
  | 3, _ => rfl
  | 4, _ => rfl
  | 5, _ => rfl
theorem cls_in : ∀ ci, ci < 6 → ∀ w ∈ u_ws (fR ci) (fT ci) (fN ci), w ∈ gtbl := by
  intro ci h
  match ci, h with
  | 0, _ => exact all_g (by decide +kernel)
  | 1, _ => exact all_g (by decide +kernel)
  | 2, _ => exact all_g (by decide +kernel)
  | 3, _ => exact all_g (by decide +kernel)
  | 4, _ => exact all_g (by decide +kernel)
  | 5, _ => exact all_g (by decide +kernel)
theorem cls_ty : ∀ ci, ci < 6 → ∀ k, k < fN ci → parseFieldDescriptor (fT ci k).2.2.1 = some (fY ci k) := by
  intro ci h
  match ci, h with
  | 0, _ => exact tyX0_ok
  | 1, _ => exact tyX1_ok
  | 2, _ => exact tyX2_ok
  | 3, _ => exact tyX3_ok
  | 4, _ => exact tyX4_ok
  | 5, _ => exact tyX4_ok
theorem cls_nm : ∀ ci, ci < 6 → ∀ a, a < fN ci → ∀ b, b < fN ci → a ≠ b → (fT ci a).2.1 ≠ (fT ci b).2.1 := by
  intro ci h
  match ci, h with
  | 0, _ => exact nmX0
  | 1, _ => exact nmX1
  | 2, _ => exact nmX2
  | 3, _ => exact nmX3
  | 4, _ => exact nmX4
  | 5, _ => exact nmX4
theorem tbl_good {w : Cond} (h : w ∈ gtbl) : goodWord w = true := (List.mem_filter.mp h).2
/-- a method's words: its code, and all words of the tables -/
def mWs (M : mM) : List Cond := .code M.1 M.2.1 M.2.2.1 M.2.2.2 :: gtbl
def mRm (d : Nat) : Room := { frames := d, cells := 0, slots := 0, locals := 30 * d }
def mBh (G : mG) (A : Nat → Prop) (u : mS) (t : State) : Prop := va_P G.2.1 mcl (mW G u) t.heap ∧ va_K G.2.1 mcl (mTy G) t ∧ va_D A (mW G u)
def mPost (G : mG) (M : mM) (Q : Option Int32 → mS → Prop) (A : Nat → Prop) : Array Value → State → Outcome → State → Prop := match M.2.2.2 with
  | none => va_Qv (fun u => Q none u) (mBh G A) A
  | some _ => va_Qi (fun r u => Q (some r) u) (mBh G A) A
/-- the triple of a method: from numbers S with these arguments it comes to its end with Q; d: how deep it calls -/
def Call (G : mG) (d : Nat) (M : mM) (av : List Value) (S : mS) (Q : Option Int32 → mS → Prop) : Prop := ∀ sz : Nat,
  Met G.1 M.1 (mWs M) (mRm d) (va_Pc av (fun U => U.heap.size = sz ∧ va_P G.2.1 mcl (mW G S) U.heap ∧ va_K G.2.1 mcl (mTy G) U ∧ va_D (fun _ => True) (mW G S))) (mPost G M Q (va_A (mW G S) sz)) 0 0 (va_A (mW G S) sz)
def mCx (G : mG) (M : mM) (A : Nat → Prop) (p : Program) (s : State) (m : MethodId) (args : Array Value) (meth : Method) (c : Code) : Prop :=
  p.tables.exec = Jvm.exec ∧ c.code = M.2.1 ∧ c.maxLocals = M.2.2.1 ∧ meth.sig.returnType = M.2.2.2 ∧ s.vm.findClass M.1.cls = some m.cls ∧ (∀ w ∈ mWs M, w.before args s = true) ∧ meth.locks = false ∧ va_K G.2.1 mcl (mTy G) s ∧ ∀ q, s.heap.size ≤ q → A q
/-- in a method, at a place: from these locals, stack and numbers it comes to its end with Q -/
def At (G : mG) (d : Nat) (M : mM) (Q : Option Int32 → mS → Prop) (pc : Nat) (lo : List (Nat × Value)) (st : List Value) (S : mS) : Prop :=
  ∀ (p : Program) (e : Env) (s : State) (m : MethodId) (args : Array Value) (below : List Frame) (meth : Method) (c : Code) (A : Nat → Prop) (H : Heap) (locs : List Loc) (ls : Array Slot),
    mCx G M A p s m args meth c → lv_has ls M.2.2.1 lo → va_P G.2.1 mcl (mW G S) H → va_D A (mW G S) → va_S A s.heap H locs →
    W p G.1 e (mRm d) s m args below meth c H locs 0 0 (MQ below (mPost G M Q A) args s 0 0 A) (F0 m pc ls st)
theorem call_of {G : mG} {d : Nat} {M : mM} {av : List Value} {S : mS} {Q : Option Int32 → mS → Prop} {lo : List (Nat × Value)} (hy : plainName M.1.cls = true) (hn : (lg_sl av).length ≤ M.2.2.1) (hl : lv_args 0 av = lo) (h : At G d M Q 0 lo [] S) : Call G d M av S Q := by
  intro sz
  refine Met.ofW (cc := M.2.1) (maxL := M.2.2.1) (ret := M.2.2.2) hy rfl ?_
  intro p e s m args below meth c s₁ B hml hv
  obtain ⟨rfl, hsz, hP, hK, hD0⟩ := hv
  subst hsz
  rw [lg_entry_eq]
  subst hl
  exact h p e s m _ below meth c _ s.heap [] _ ⟨B.exec, B.bytes, hml, B.returns, findClass_of_methodNamed B.named, atoms_spec (ws := mWs M) B.pre, B.notSynchronized, hK, fun q hq => Or.inr hq⟩ (lv_entry av hn) hP hD0.self va_S.rf
theorem Met_mono {l : Launch} {y : MethodName} {ws : List Cond} {rm : Room} {Pc : Array Value → State → Prop} {Qc Qc' : Array Value → State → Outcome → State → Prop} {mc ms : Nat} {free : Addr → Prop} (h : Met l y ws rm Pc Qc mc ms free) (hq : ∀ a st o t, Qc a st o t → Qc' a st o t) : Met l y ws rm Pc Qc' mc ms free := by
  intro p e ha hc hk s m args below hf happ hP hT
  obtain ⟨k, o, h1, h2, h3, h4, h5⟩ := h p e ha hc hk s m args below hf happ hP hT
  exact ⟨k, o, h1, h2, h3, hq _ _ _ _ h4, h5⟩
theorem call_mono {G : mG} {d : Nat} {M : mM} {av : List Value} {S : mS} {Q Q' : Option Int32 → mS → Prop} (h : Call G d M av S Q) (hq : ∀ v u, Q v u → Q' v u) : Call G d M av S Q' := by
  intro sz
  refine Met_mono (h sz) ?_
  intro a st o t
  unfold mPost
  cases M.2.2.2 with
  | none => exact fun ⟨⟨u, h1, h2, h3⟩, h4⟩ => ⟨⟨u, h1, hq _ _ h2, h3⟩, h4⟩
  | some ty => exact fun ⟨⟨r, u, h1, h2, h3⟩, h4⟩ => ⟨⟨r, u, h1, hq _ _ h2, h3⟩, h4⟩
section ROWS
variable {G : mG} {d : Nat} {M : mM} {Q : Option Int32 → mS → Prop} {pc : Nat} {lo : List (Nat × Value)} {st : List Value} {S : mS}
theorem cp_nat : Cond.native arraycopyName ∈ gtbl := all_g (l := [Cond.native arraycopyName]) (by decide +kernel) _ List.mem_cons_self
theorem cp_sta : Cond.static arraycopyName ∈ gtbl := all_g (l := [Cond.static arraycopyName]) (by decide +kernel) _ List.mem_cons_self
theorem cp_ini : Cond.initialized "java/lang/System" ∈ gtbl := all_g (l := [Cond.initialized "java/lang/System"]) (by decide +kernel) _ List.mem_cons_self
theorem cp_words {d : Nat} (h : 4 ≤ d) : 0 + (nativeFrameWords "java/lang/System" "arraycopy" 5 + 11) ≤ 30 * d := by
  have : nativeFrameWords "java/lang/System" "arraycopy" 5 + 11 ≤ 120 := by decide +kernel
  omega
theorem r_iconst {n : Int} {v : Int32} (hd : decode M.2.1 pc = .ok (.iconst n, 1)) (hv : Int32.ofInt n = v) (k : At G d M Q (pc + 1) lo (.int v :: st) S) : At G d M Q pc lo (st) S := by
  intro p e s m args below meth c A H locs ls C hl hP hD hS
  exact lv_iconst C.1 C.2.1 hd hv (k _ _ _ _ _ _ _ _ _ _ _ _ C hl hP hD hS)
theorem r_bipush {n : Int} {v : Int32} (hd : decode M.2.1 pc = .ok (.bipush n, 2)) (hv : (Int8.ofInt n).toInt32 = v) (k : At G d M Q (pc + 2) lo (.int v :: st) S) : At G d M Q pc lo (st) S := by
  intro p e s m args below meth c A H locs ls C hl hP hD hS
  exact lv_bipush C.1 C.2.1 hd hv (k _ _ _ _ _ _ _ _ _ _ _ _ C hl hP hD hS)
theorem r_sipush {n : Int} {v : Int32} (hd : decode M.2.1 pc = .ok (.sipush n, 3)) (hv : (Int16.ofInt n).toInt32 = v) (k : At G d M Q (pc + 3) lo (.int v :: st) S) : At G d M Q pc lo (st) S := by
  intro p e s m args below meth c A H locs ls C hl hP hD hS
  exact lv_sipush C.1 C.2.1 hd hv (k _ _ _ _ _ _ _ _ _ _ _ _ C hl hP hD hS)
theorem r_lconst {n : Fin 2} {v : Int64} (hd : decode M.2.1 pc = .ok (.lconst n, 1)) (hv : Int64.ofNat (n : Nat) = v) (k : At G d M Q (pc + 1) lo (.long v :: st) S) : At G d M Q pc lo (st) S := by
  intro p e s m args below meth c A H locs ls C hl hP hD hS
  exact lv_lconst C.1 C.2.1 hd hv (k _ _ _ _ _ _ _ _ _ _ _ _ C hl hP hD hS)
theorem r_iload_n {n : Fin 4} {x : Int32} (hd : decode M.2.1 pc = .ok (.iload_n n, 1)) (j : Nat) (hg : lo[j]? = some ((n : Nat), .int x)) (k : At G d M Q (pc + 1) lo (.int x :: st) S) : At G d M Q pc lo (st) S := by
  intro p e s m args below meth c A H locs ls C hl hP hD hS
  exact lv_iload_n C.1 C.2.1 hd rfl (lv_at hl j hg) (k _ _ _ _ _ _ _ _ _ _ _ _ C hl hP hD hS)
theorem r_iload {i : Nat} {x : Int32} (hd : decode M.2.1 pc = .ok (.iload i, 2)) (j : Nat) (hg : lo[j]? = some (i, .int x)) (k : At G d M Q (pc + 2) lo (.int x :: st) S) : At G d M Q pc lo (st) S := by
  intro p e s m args below meth c A H locs ls C hl hP hD hS
  exact lv_iload C.1 C.2.1 hd (lv_at hl j hg) (k _ _ _ _ _ _ _ _ _ _ _ _ C hl hP hD hS)
theorem r_lload_n {n : Fin 4} {x : Int64} (hd : decode M.2.1 pc = .ok (.lload_n n, 1)) (j : Nat) (hg : lo[j]? = some ((n : Nat), .long x)) (k : At G d M Q (pc + 1) lo (.long x :: st) S) : At G d M Q pc lo (st) S := by
  intro p e s m args below meth c A H locs ls C hl hP hD hS
  exact lv_lload_n C.1 C.2.1 hd rfl (lv_at hl j hg) (k _ _ _ _ _ _ _ _ _ _ _ _ C hl hP hD hS)
theorem r_lload {i : Nat} {x : Int64} (hd : decode M.2.1 pc = .ok (.lload i, 2)) (j : Nat) (hg : lo[j]? = some (i, .long x)) (k : At G d M Q (pc + 2) lo (.long x :: st) S) : At G d M Q pc lo (st) S := by
  intro p e s m args below meth c A H locs ls C hl hP hD hS
  exact lv_lload C.1 C.2.1 hd (lv_at hl j hg) (k _ _ _ _ _ _ _ _ _ _ _ _ C hl hP hD hS)
theorem r_aload_n {n : Fin 4} {x : Nat} (hd : decode M.2.1 pc = .ok (.aload_n n, 1)) (j : Nat) (hg : lo[j]? = some ((n : Nat), rv G x)) (k : At G d M Q (pc + 1) lo (rv G x :: st) S) : At G d M Q pc lo (st) S := by
  intro p e s m args below meth c A H locs ls C hl hP hD hS
  exact lv_aload_n C.1 C.2.1 hd rfl (lv_at hl j hg) (k _ _ _ _ _ _ _ _ _ _ _ _ C hl hP hD hS)
theorem r_aload {i : Nat} {x : Nat} (hd : decode M.2.1 pc = .ok (.aload i, 2)) (j : Nat) (hg : lo[j]? = some (i, rv G x)) (k : At G d M Q (pc + 2) lo (rv G x :: st) S) : At G d M Q pc lo (st) S := by
  intro p e s m args below meth c A H locs ls C hl hP hD hS
  exact lv_aload C.1 C.2.1 hd (lv_at hl j hg) (k _ _ _ _ _ _ _ _ _ _ _ _ C hl hP hD hS)
theorem r_istore_n {n : Fin 4} {i : Nat} {x : Int32} {lo2 : List (Nat × Value)} (hd : decode M.2.1 pc = .ok (.istore_n n, 1)) (hi : (n : Nat) = i) (hn : i < M.2.2.1) (ps : List Nat) (hs : lv_pick ((i, .int x) :: lo.filter (fun q => !(q.1 == i) && !(q.1 + 1 == i && q.2.category == 2))) ps = lo2) (k : At G d M Q (pc + 1) lo2 st S) : At G d M Q pc lo (.int x :: st) S := by
  intro p e s m args below meth c A H locs ls C hl hP hD hS
  exact lv_istore_n C.1 C.2.1 hd hi hl hn rfl (fun ls' hl => k _ _ _ _ _ _ _ _ _ _ _ _ C (lv_sub hl ps hs) hP hD hS)
theorem r_istore  {i : Nat} {x : Int32} {lo2 : List (Nat × Value)} (hd : decode M.2.1 pc = .ok (.istore i, 2)) (hn : i < M.2.2.1) (ps : List Nat) (hs : lv_pick ((i, .int x) :: lo.filter (fun q => !(q.1 == i) && !(q.1 + 1 == i && q.2.category == 2))) ps = lo2) (k : At G d M Q (pc + 2) lo2 st S) : At G d M Q pc lo (.int x :: st) S := by
  intro p e s m args below meth c A H locs ls C hl hP hD hS
  exact lv_istore C.1 C.2.1 hd hl hn rfl (fun ls' hl => k _ _ _ _ _ _ _ _ _ _ _ _ C (lv_sub hl ps hs) hP hD hS)
theorem r_lstore_n {n : Fin 4} {i : Nat} {x : Int64} {lo2 : List (Nat × Value)} (hd : decode M.2.1 pc = .ok (.lstore_n n, 1)) (hi : (n : Nat) = i) (hn : i + 1 < M.2.2.1) (ps : List Nat) (hs : lv_pick ((i, .long x) :: lo.filter (fun q => !(q.1 == i) && (!(q.1 == i + 1) && !(q.1 + 1 == i && q.2.category == 2)))) ps = lo2) (k : At G d M Q (pc + 1) lo2 st S) : At G d M Q pc lo (.long x :: st) S := by
  intro p e s m args below meth c A H locs ls C hl hP hD hS
  exact lv_lstore_n C.1 C.2.1 hd hi hl hn rfl (fun ls' hl => k _ _ _ _ _ _ _ _ _ _ _ _ C (lv_sub hl ps hs) hP hD hS)
theorem r_lstore  {i : Nat} {x : Int64} {lo2 : List (Nat × Value)} (hd : decode M.2.1 pc = .ok (.lstore i, 2)) (hn : i + 1 < M.2.2.1) (ps : List Nat) (hs : lv_pick ((i, .long x) :: lo.filter (fun q => !(q.1 == i) && (!(q.1 == i + 1) && !(q.1 + 1 == i && q.2.category == 2)))) ps = lo2) (k : At G d M Q (pc + 2) lo2 st S) : At G d M Q pc lo (.long x :: st) S := by
  intro p e s m args below meth c A H locs ls C hl hP hD hS
  exact lv_lstore C.1 C.2.1 hd hl hn rfl (fun ls' hl => k _ _ _ _ _ _ _ _ _ _ _ _ C (lv_sub hl ps hs) hP hD hS)
theorem r_astore_n {n : Fin 4} {i : Nat} {x : Nat} {lo2 : List (Nat × Value)} (hd : decode M.2.1 pc = .ok (.astore_n n, 1)) (hi : (n : Nat) = i) (hn : i < M.2.2.1) (ps : List Nat) (hs : lv_pick ((i, rv G x) :: lo.filter (fun q => !(q.1 == i) && !(q.1 + 1 == i && q.2.category == 2))) ps = lo2) (k : At G d M Q (pc + 1) lo2 st S) : At G d M Q pc lo (rv G x :: st) S := by
  intro p e s m args below meth c A H locs ls C hl hP hD hS
  exact lv_astore_n C.1 C.2.1 hd hi hl hn rfl (fun ls' hl => k _ _ _ _ _ _ _ _ _ _ _ _ C (lv_sub hl ps hs) hP hD hS)
theorem r_astore  {i : Nat} {x : Nat} {lo2 : List (Nat × Value)} (hd : decode M.2.1 pc = .ok (.astore i, 2)) (hn : i < M.2.2.1) (ps : List Nat) (hs : lv_pick ((i, rv G x) :: lo.filter (fun q => !(q.1 == i) && !(q.1 + 1 == i && q.2.category == 2))) ps = lo2) (k : At G d M Q (pc + 2) lo2 st S) : At G d M Q pc lo (rv G x :: st) S := by
  intro p e s m args below meth c A H locs ls C hl hP hD hS
  exact lv_astore C.1 C.2.1 hd hl hn rfl (fun ls' hl => k _ _ _ _ _ _ _ _ _ _ _ _ C (lv_sub hl ps hs) hP hD hS)
theorem r_iinc {i : Nat} {n : Int} {x w : Int32} {lo2 : List (Nat × Value)} (hd : decode M.2.1 pc = .ok (.iinc i n, 3)) (j : Nat) (hg : lo[j]? = some (i, .int x)) (hw : Int32.ofInt n = w) (hn : i < M.2.2.1) (ps : List Nat) (hs : lv_pick ((i, .int (x + w)) :: lo.filter (fun q => !(q.1 == i) && !(q.1 + 1 == i && q.2.category == 2))) ps = lo2) (k : At G d M Q (pc + 3) lo2 st S) : At G d M Q pc lo st S := by
  intro p e s m args below meth c A H locs ls C hl hP hD hS
  subst hw
  exact lv_iinc C.1 C.2.1 hd hl (k := j) hg rfl hn rfl (fun ls' hl => k _ _ _ _ _ _ _ _ _ _ _ _ C (lv_sub hl ps hs) hP hD hS)
theorem r_sub {lo2 : List (Nat × Value)} (ps : List Nat) (hs : lv_pick lo ps = lo2) (k : At G d M Q pc lo2 st S) : At G d M Q pc lo st S := by
  intro p e s m args below meth c A H locs ls C hl hP hD hS
  exact k _ _ _ _ _ _ _ _ _ _ _ _ C (lv_sub hl ps hs) hP hD hS
theorem r_iadd {x y : Int32} (hd : decode M.2.1 pc = .ok (.iadd, 1))  (k : At G d M Q (pc + 1) lo (.int (x + y) :: st) S) : At G d M Q pc lo (.int y :: .int x :: st) S := by
  intro p e s m args below meth c A H locs ls C hl hP hD hS
  exact lv_iadd C.1 C.2.1 hd  (k _ _ _ _ _ _ _ _ _ _ _ _ C hl hP hD hS)
theorem r_isub {x y : Int32} (hd : decode M.2.1 pc = .ok (.isub, 1))  (k : At G d M Q (pc + 1) lo (.int (x - y) :: st) S) : At G d M Q pc lo (.int y :: .int x :: st) S := by
  intro p e s m args below meth c A H locs ls C hl hP hD hS
  exact lv_isub C.1 C.2.1 hd  (k _ _ _ _ _ _ _ _ _ _ _ _ C hl hP hD hS)
theorem r_imul {x y : Int32} (hd : decode M.2.1 pc = .ok (.imul, 1))  (k : At G d M Q (pc + 1) lo (.int (x * y) :: st) S) : At G d M Q pc lo (.int y :: .int x :: st) S := by
  intro p e s m args below meth c A H locs ls C hl hP hD hS
  exact lv_imul C.1 C.2.1 hd  (k _ _ _ _ _ _ _ _ _ _ _ _ C hl hP hD hS)
theorem r_iand {x y : Int32} (hd : decode M.2.1 pc = .ok (.iand, 1))  (k : At G d M Q (pc + 1) lo (.int (x &&& y) :: st) S) : At G d M Q pc lo (.int y :: .int x :: st) S := by
  intro p e s m args below meth c A H locs ls C hl hP hD hS
  exact lv_iand C.1 C.2.1 hd  (k _ _ _ _ _ _ _ _ _ _ _ _ C hl hP hD hS)
theorem r_ior {x y : Int32} (hd : decode M.2.1 pc = .ok (.ior, 1))  (k : At G d M Q (pc + 1) lo (.int (x ||| y) :: st) S) : At G d M Q pc lo (.int y :: .int x :: st) S := by
  intro p e s m args below meth c A H locs ls C hl hP hD hS
  exact lv_ior C.1 C.2.1 hd  (k _ _ _ _ _ _ _ _ _ _ _ _ C hl hP hD hS)
theorem r_ixor {x y : Int32} (hd : decode M.2.1 pc = .ok (.ixor, 1))  (k : At G d M Q (pc + 1) lo (.int (x ^^^ y) :: st) S) : At G d M Q pc lo (.int y :: .int x :: st) S := by
  intro p e s m args below meth c A H locs ls C hl hP hD hS
  exact lv_ixor C.1 C.2.1 hd  (k _ _ _ _ _ _ _ _ _ _ _ _ C hl hP hD hS)
theorem r_ishl {x y : Int32} (hd : decode M.2.1 pc = .ok (.ishl, 1))  (k : At G d M Q (pc + 1) lo (.int (x <<< (y &&& 31)) :: st) S) : At G d M Q pc lo (.int y :: .int x :: st) S := by
  intro p e s m args below meth c A H locs ls C hl hP hD hS
  exact lv_ishl C.1 C.2.1 hd  (k _ _ _ _ _ _ _ _ _ _ _ _ C hl hP hD hS)
theorem r_ishr {x y : Int32} (hd : decode M.2.1 pc = .ok (.ishr, 1))  (k : At G d M Q (pc + 1) lo (.int (x >>> (y &&& 31)) :: st) S) : At G d M Q pc lo (.int y :: .int x :: st) S := by
  intro p e s m args below meth c A H locs ls C hl hP hD hS
  exact lv_ishr C.1 C.2.1 hd  (k _ _ _ _ _ _ _ _ _ _ _ _ C hl hP hD hS)
theorem r_irem {x y : Int32} (hd : decode M.2.1 pc = .ok (.irem, 1)) (hne : ¬ y = 0) (k : At G d M Q (pc + 1) lo (.int (x - x / y * y) :: st) S) : At G d M Q pc lo (.int y :: .int x :: st) S := by
  intro p e s m args below meth c A H locs ls C hl hP hD hS
  exact lv_irem C.1 C.2.1 hd hne (k _ _ _ _ _ _ _ _ _ _ _ _ C hl hP hD hS)
theorem r_iushr {x y : Int32} (hd : decode M.2.1 pc = .ok (.iushr, 1))  (k : At G d M Q (pc + 1) lo (.int ((x.toUInt32 >>> (y.toUInt32 &&& Int32.toUInt32 31)).toInt32) :: st) S) : At G d M Q pc lo (.int y :: .int x :: st) S := by
  intro p e s m args below meth c A H locs ls C hl hP hD hS
  exact lv_iushr C.1 C.2.1 hd rfl (k _ _ _ _ _ _ _ _ _ _ _ _ C hl hP hD hS)
theorem r_land {x y : Int64} (hd : decode M.2.1 pc = .ok (.land, 1))  (k : At G d M Q (pc + 1) lo (.long (x &&& y) :: st) S) : At G d M Q pc lo (.long y :: .long x :: st) S := by
  intro p e s m args below meth c A H locs ls C hl hP hD hS
  exact lv_land C.1 C.2.1 hd  (k _ _ _ _ _ _ _ _ _ _ _ _ C hl hP hD hS)
theorem r_lor {x y : Int64} (hd : decode M.2.1 pc = .ok (.lor, 1))  (k : At G d M Q (pc + 1) lo (.long (x ||| y) :: st) S) : At G d M Q pc lo (.long y :: .long x :: st) S := by
  intro p e s m args below meth c A H locs ls C hl hP hD hS
  exact lv_lor C.1 C.2.1 hd  (k _ _ _ _ _ _ _ _ _ _ _ _ C hl hP hD hS)
theorem r_lushr {x : Int64} {y : Int32} (hd : decode M.2.1 pc = .ok (.lushr, 1))  (k : At G d M Q (pc + 1) lo (.long ((x.toUInt64 >>> (y.toInt64.toUInt64 &&& Int64.toUInt64 63)).toInt64) :: st) S) : At G d M Q pc lo (.int y :: .long x :: st) S := by
  intro p e s m args below meth c A H locs ls C hl hP hD hS
  exact lv_lushr C.1 C.2.1 hd rfl (k _ _ _ _ _ _ _ _ _ _ _ _ C hl hP hD hS)
theorem r_lshl {x : Int64} {y : Int32} (hd : decode M.2.1 pc = .ok (.lshl, 1))  (k : At G d M Q (pc + 1) lo (.long (x <<< (y.toInt64 &&& 63)) :: st) S) : At G d M Q pc lo (.int y :: .long x :: st) S := by
  intro p e s m args below meth c A H locs ls C hl hP hD hS
  exact lv_lshl C.1 C.2.1 hd rfl (k _ _ _ _ _ _ _ _ _ _ _ _ C hl hP hD hS)
theorem r_lcmp {x y : Int64} (hd : decode M.2.1 pc = .ok (.lcmp, 1))  (k : At G d M Q (pc + 1) lo (.int (lg_cmp x y) :: st) S) : At G d M Q pc lo (.long y :: .long x :: st) S := by
  intro p e s m args below meth c A H locs ls C hl hP hD hS
  exact W.lcmp C.1 C.2.1 hd  (k _ _ _ _ _ _ _ _ _ _ _ _ C hl hP hD hS)
theorem r_i2l {x : Int32} (hd : decode M.2.1 pc = .ok (.i2l, 1))  (k : At G d M Q (pc + 1) lo (.long x.toInt64 :: st) S) : At G d M Q pc lo (.int x :: st) S := by
  intro p e s m args below meth c A H locs ls C hl hP hD hS
  exact lv_i2l C.1 C.2.1 hd rfl (k _ _ _ _ _ _ _ _ _ _ _ _ C hl hP hD hS)
theorem r_l2i {x : Int64} (hd : decode M.2.1 pc = .ok (.l2i, 1))  (k : At G d M Q (pc + 1) lo (.int x.toInt32 :: st) S) : At G d M Q pc lo (.long x :: st) S := by
  intro p e s m args below meth c A H locs ls C hl hP hD hS
  exact lv_l2i C.1 C.2.1 hd rfl (k _ _ _ _ _ _ _ _ _ _ _ _ C hl hP hD hS)
theorem r_i2c {x : Int32} (hd : decode M.2.1 pc = .ok (.i2c, 1))  (k : At G d M Q (pc + 1) lo (.int (x.toUInt32 % 65536).toInt32 :: st) S) : At G d M Q pc lo (.int x :: st) S := by
  intro p e s m args below meth c A H locs ls C hl hP hD hS
  exact lv_i2c C.1 C.2.1 hd rfl (k _ _ _ _ _ _ _ _ _ _ _ _ C hl hP hD hS)
theorem r_dup {v : Value} (hd : decode M.2.1 pc = .ok (.dup, 1)) (hv : v.category = 1) (k : At G d M Q (pc + 1) lo (v :: v :: st) S) : At G d M Q pc lo (v :: st) S := by
  intro p e s m args below meth c A H locs ls C hl hP hD hS
  exact lv_dup C.1 C.2.1 hd hv (k _ _ _ _ _ _ _ _ _ _ _ _ C hl hP hD hS)
theorem r_pop {v : Value} (hd : decode M.2.1 pc = .ok (.pop, 1)) (hv : v.category = 1) (k : At G d M Q (pc + 1) lo (st) S) : At G d M Q pc lo (v :: st) S := by
  intro p e s m args below meth c A H locs ls C hl hP hD hS
  exact lv_pop C.1 C.2.1 hd hv (k _ _ _ _ _ _ _ _ _ _ _ _ C hl hP hD hS)
theorem r_dup2 {v w : Value} (hd : decode M.2.1 pc = .ok (.dup2, 1)) (hv : v.category = 1) (hw : w.category = 1) (k : At G d M Q (pc + 1) lo (v :: w :: v :: w :: st) S) : At G d M Q pc lo (v :: w :: st) S := by
  intro p e s m args below meth c A H locs ls C hl hP hD hS
  exact lv_dup2_11 C.1 C.2.1 hd hv hw (k _ _ _ _ _ _ _ _ _ _ _ _ C hl hP hD hS)
theorem r_if_eq {x : Int32} {off : Int} {tgt : Nat} (hd : decode M.2.1 pc = .ok (.ifCond .eq off, 3)) (ht : (pc : Int) + off = (tgt : Int)) (kt : x = 0 → At G d M Q tgt lo st S) (kf : ¬ (x = 0) → At G d M Q (pc + 3) lo st S) : At G d M Q pc lo (.int x :: st) S := by
  intro p e s m args below meth c A H locs ls C hl hP hD hS
  exact lv_if_eq C.1 C.2.1 hd ht (fun z => kt z _ _ _ _ _ _ _ _ _ _ _ _ C hl hP hD hS) (fun z => kf z _ _ _ _ _ _ _ _ _ _ _ _ C hl hP hD hS)
theorem r_icmp_eq {x y : Int32} {off : Int} {tgt : Nat} (hd : decode M.2.1 pc = .ok (.if_icmp .eq off, 3)) (ht : (pc : Int) + off = (tgt : Int)) (kt : x = y → At G d M Q tgt lo st S) (kf : ¬ (x = y) → At G d M Q (pc + 3) lo st S) : At G d M Q pc lo (.int y :: .int x :: st) S := by
  intro p e s m args below meth c A H locs ls C hl hP hD hS
  exact lv_icmp_eq C.1 C.2.1 hd ht (fun z => kt z _ _ _ _ _ _ _ _ _ _ _ _ C hl hP hD hS) (fun z => kf z _ _ _ _ _ _ _ _ _ _ _ _ C hl hP hD hS)
theorem r_if_ne {x : Int32} {off : Int} {tgt : Nat} (hd : decode M.2.1 pc = .ok (.ifCond .ne off, 3)) (ht : (pc : Int) + off = (tgt : Int)) (kt : x ≠ 0 → At G d M Q tgt lo st S) (kf : x = 0 → At G d M Q (pc + 3) lo st S) : At G d M Q pc lo (.int x :: st) S := by
  intro p e s m args below meth c A H locs ls C hl hP hD hS
  exact lv_if_ne C.1 C.2.1 hd ht (fun z => kt z _ _ _ _ _ _ _ _ _ _ _ _ C hl hP hD hS) (fun z => kf z _ _ _ _ _ _ _ _ _ _ _ _ C hl hP hD hS)
theorem r_icmp_ne {x y : Int32} {off : Int} {tgt : Nat} (hd : decode M.2.1 pc = .ok (.if_icmp .ne off, 3)) (ht : (pc : Int) + off = (tgt : Int)) (kt : x ≠ y → At G d M Q tgt lo st S) (kf : x = y → At G d M Q (pc + 3) lo st S) : At G d M Q pc lo (.int y :: .int x :: st) S := by
  intro p e s m args below meth c A H locs ls C hl hP hD hS
  exact lv_icmp_ne C.1 C.2.1 hd ht (fun z => kt z _ _ _ _ _ _ _ _ _ _ _ _ C hl hP hD hS) (fun z => kf z _ _ _ _ _ _ _ _ _ _ _ _ C hl hP hD hS)
theorem r_if_lt {x : Int32} {off : Int} {tgt : Nat} (hd : decode M.2.1 pc = .ok (.ifCond .lt off, 3)) (ht : (pc : Int) + off = (tgt : Int)) (kt : x < 0 → At G d M Q tgt lo st S) (kf : ¬ (x < 0) → At G d M Q (pc + 3) lo st S) : At G d M Q pc lo (.int x :: st) S := by
  intro p e s m args below meth c A H locs ls C hl hP hD hS
  exact lv_if_lt C.1 C.2.1 hd ht (fun z => kt z _ _ _ _ _ _ _ _ _ _ _ _ C hl hP hD hS) (fun z => kf z _ _ _ _ _ _ _ _ _ _ _ _ C hl hP hD hS)
theorem r_icmp_lt {x y : Int32} {off : Int} {tgt : Nat} (hd : decode M.2.1 pc = .ok (.if_icmp .lt off, 3)) (ht : (pc : Int) + off = (tgt : Int)) (kt : x < y → At G d M Q tgt lo st S) (kf : ¬ (x < y) → At G d M Q (pc + 3) lo st S) : At G d M Q pc lo (.int y :: .int x :: st) S := by
  intro p e s m args below meth c A H locs ls C hl hP hD hS
  exact lv_icmp_lt C.1 C.2.1 hd ht (fun z => kt z _ _ _ _ _ _ _ _ _ _ _ _ C hl hP hD hS) (fun z => kf z _ _ _ _ _ _ _ _ _ _ _ _ C hl hP hD hS)
theorem r_if_ge {x : Int32} {off : Int} {tgt : Nat} (hd : decode M.2.1 pc = .ok (.ifCond .ge off, 3)) (ht : (pc : Int) + off = (tgt : Int)) (kt : 0 ≤ x → At G d M Q tgt lo st S) (kf : ¬ (0 ≤ x) → At G d M Q (pc + 3) lo st S) : At G d M Q pc lo (.int x :: st) S := by
  intro p e s m args below meth c A H locs ls C hl hP hD hS
  exact lv_if_ge C.1 C.2.1 hd ht (fun z => kt z _ _ _ _ _ _ _ _ _ _ _ _ C hl hP hD hS) (fun z => kf z _ _ _ _ _ _ _ _ _ _ _ _ C hl hP hD hS)
theorem r_icmp_ge {x y : Int32} {off : Int} {tgt : Nat} (hd : decode M.2.1 pc = .ok (.if_icmp .ge off, 3)) (ht : (pc : Int) + off = (tgt : Int)) (kt : y ≤ x → At G d M Q tgt lo st S) (kf : ¬ (y ≤ x) → At G d M Q (pc + 3) lo st S) : At G d M Q pc lo (.int y :: .int x :: st) S := by
  intro p e s m args below meth c A H locs ls C hl hP hD hS
  exact lv_icmp_ge C.1 C.2.1 hd ht (fun z => kt z _ _ _ _ _ _ _ _ _ _ _ _ C hl hP hD hS) (fun z => kf z _ _ _ _ _ _ _ _ _ _ _ _ C hl hP hD hS)
theorem r_if_gt {x : Int32} {off : Int} {tgt : Nat} (hd : decode M.2.1 pc = .ok (.ifCond .gt off, 3)) (ht : (pc : Int) + off = (tgt : Int)) (kt : 0 < x → At G d M Q tgt lo st S) (kf : ¬ (0 < x) → At G d M Q (pc + 3) lo st S) : At G d M Q pc lo (.int x :: st) S := by
  intro p e s m args below meth c A H locs ls C hl hP hD hS
  exact lv_if_gt C.1 C.2.1 hd ht (fun z => kt z _ _ _ _ _ _ _ _ _ _ _ _ C hl hP hD hS) (fun z => kf z _ _ _ _ _ _ _ _ _ _ _ _ C hl hP hD hS)
theorem r_icmp_gt {x y : Int32} {off : Int} {tgt : Nat} (hd : decode M.2.1 pc = .ok (.if_icmp .gt off, 3)) (ht : (pc : Int) + off = (tgt : Int)) (kt : y < x → At G d M Q tgt lo st S) (kf : ¬ (y < x) → At G d M Q (pc + 3) lo st S) : At G d M Q pc lo (.int y :: .int x :: st) S := by
  intro p e s m args below meth c A H locs ls C hl hP hD hS
  exact lv_icmp_gt C.1 C.2.1 hd ht (fun z => kt z _ _ _ _ _ _ _ _ _ _ _ _ C hl hP hD hS) (fun z => kf z _ _ _ _ _ _ _ _ _ _ _ _ C hl hP hD hS)
theorem r_if_le {x : Int32} {off : Int} {tgt : Nat} (hd : decode M.2.1 pc = .ok (.ifCond .le off, 3)) (ht : (pc : Int) + off = (tgt : Int)) (kt : x ≤ 0 → At G d M Q tgt lo st S) (kf : ¬ (x ≤ 0) → At G d M Q (pc + 3) lo st S) : At G d M Q pc lo (.int x :: st) S := by
  intro p e s m args below meth c A H locs ls C hl hP hD hS
  exact lv_if_le C.1 C.2.1 hd ht (fun z => kt z _ _ _ _ _ _ _ _ _ _ _ _ C hl hP hD hS) (fun z => kf z _ _ _ _ _ _ _ _ _ _ _ _ C hl hP hD hS)
theorem r_icmp_le {x y : Int32} {off : Int} {tgt : Nat} (hd : decode M.2.1 pc = .ok (.if_icmp .le off, 3)) (ht : (pc : Int) + off = (tgt : Int)) (kt : x ≤ y → At G d M Q tgt lo st S) (kf : ¬ (x ≤ y) → At G d M Q (pc + 3) lo st S) : At G d M Q pc lo (.int y :: .int x :: st) S := by
  intro p e s m args below meth c A H locs ls C hl hP hD hS
  exact lv_icmp_le C.1 C.2.1 hd ht (fun z => kt z _ _ _ _ _ _ _ _ _ _ _ _ C hl hP hD hS) (fun z => kf z _ _ _ _ _ _ _ _ _ _ _ _ C hl hP hD hS)
theorem r_goto {off : Int} {tgt : Nat} (hd : decode M.2.1 pc = .ok (.goto off, 3)) (ht : (pc : Int) + off = (tgt : Int)) (k : At G d M Q tgt lo st S) : At G d M Q pc lo st S := by
  intro p e s m args below meth c A H locs ls C hl hP hD hS
  exact lv_goto C.1 C.2.1 hd ht (k _ _ _ _ _ _ _ _ _ _ _ _ C hl hP hD hS)
theorem r_tabIn {dflt lw hi : Int} {offs : Array Int} {len : Nat} {x : Int32} {off : Int} {tgt : Nat} (hd : decode M.2.1 pc = .ok (.tableswitch dflt lw hi offs, len)) (h1 : ¬ x.toInt < lw) (h2 : ¬ hi < x.toInt) (ho : offs[(x.toInt - lw).toNat]? = some off) (ht : (pc : Int) + off = (tgt : Int)) (k : At G d M Q tgt lo st S) : At G d M Q pc lo (.int x :: st) S := by
  intro p e s m args below meth c A H locs ls C hl hP hD hS
  exact lv_tableIn C.1 C.2.1 hd h1 h2 ho ht (k _ _ _ _ _ _ _ _ _ _ _ _ C hl hP hD hS)
theorem r_tabOut {dflt lw hi : Int} {offs : Array Int} {len : Nat} {x : Int32} {tgt : Nat} (hd : decode M.2.1 pc = .ok (.tableswitch dflt lw hi offs, len)) (h : x.toInt < lw ∨ hi < x.toInt) (ht : (pc : Int) + dflt = (tgt : Int)) (k : At G d M Q tgt lo st S) : At G d M Q pc lo (.int x :: st) S := by
  intro p e s m args below meth c A H locs ls C hl hP hD hS
  exact lv_tableOut C.1 C.2.1 hd h ht (k _ _ _ _ _ _ _ _ _ _ _ _ C hl hP hD hS)
theorem r_lookup {dflt : Int} {ps : Array (Int × Int)} {len : Nat} {x : Int32} {off : Int} {tgt : Nat} (hd : decode M.2.1 pc = .ok (.lookupswitch dflt ps, len)) (hp : (ps.toList.zip (ps.toList.drop 1)).all (fun (a, next) => a.1 < next.1) = true) (ho : Op.lookupswitch.offset ps.toList dflt x.toInt = off) (ht : (pc : Int) + off = (tgt : Int)) (k : At G d M Q tgt lo st S) : At G d M Q pc lo (.int x :: st) S := by
  intro p e s m args below meth c A H locs ls C hl hP hD hS
  exact lv_lookup C.1 C.2.1 hd hp ho ht (k _ _ _ _ _ _ _ _ _ _ _ _ C hl hP hD hS)
def KI (own : String) (i : Nat) (v : Int32) : Prop := Cond.constant own i v ∈ gtbl
def KL (own : String) (i : Nat) (v : Int64) : Prop := Cond.constantLong own i v ∈ gtbl
theorem r_ldcw {i : Nat} {v : Int32} (hk : KI M.1.cls i v) (hd : decode M.2.1 pc = .ok (.ldc_w i, 3)) (k : At G d M Q (pc + 3) lo (.int v :: st) S) : At G d M Q pc lo st S := by
  intro p e s m args below meth c A H locs ls C hl hP hD hS
  exact lv_ldcw C.1 C.2.1 C.2.2.2.2.1 (C.2.2.2.2.2.1 _ (List.mem_cons_of_mem _ hk)) hd (k _ _ _ _ _ _ _ _ _ _ _ _ C hl hP hD hS)
theorem r_ldc2 {i : Nat} {v : Int64} (hk : KL M.1.cls i v) (hd : decode M.2.1 pc = .ok (.ldc2_w i, 3)) (k : At G d M Q (pc + 3) lo (.long v :: st) S) : At G d M Q pc lo st S := by
  intro p e s m args below meth c A H locs ls C hl hP hD hS
  exact lv_ldc2 C.1 C.2.1 C.2.2.2.2.1 (C.2.2.2.2.2.1 _ (List.mem_cons_of_mem _ hk)) hd (k _ _ _ _ _ _ _ _ _ _ _ _ C hl hP hD hS)
/-- a field's link in the tables -/
def FL (own : String) (i ci f : Nat) : Prop := (ci < 6 ∧ f < fN ci) ∧ Cond.fieldLink own i (fR ci) (fT ci f).2.1 (fT ci f).2.2.1 ∈ gtbl
theorem hasO {a ci : Nat} (hk : kd a = ci) (hc : ci < 6) : (mW G S)[a]? = some (G.2.2.2 a, .inr (ci, mFs G S a ci)) := by
  rw [mW_at G S (kd_lt (by omega)), cellE_o hk hc]
theorem r_get {i ci f a : Nat} (hk : kd a = ci) (hf : FL M.1.cls i ci f) (hd : decode M.2.1 pc = .ok (.getfield i, 3)) {v : Value} (hv : (if isI ci f then .int (S a f) else rv G (rf a f)) = v) (hs : fT ci f = (fR ci, (fT ci f).2)) (k : At G d M Q (pc + 3) lo (v :: st) S) : At G d M Q pc lo (rv G a :: st) S := by
  intro p e s m args below meth c A H locs ls C hl hP hD hS
  subst hv
  exact va_get (D := G.2.1) (ci := ci) (C := fR ci) (T := fT ci) (N := fN ci) C.1 C.2.1 C.2.2.2.2.2.1 (fun w hw => List.mem_cons_of_mem _ (cls_in ci hf.1.1 w hw)) C.2.2.2.2.1 C.2.2.2.2.2.2.2.1 hP a (hasO hk hf.1.1) (cls_at ci hf.1.1) f hf.1.2 (C.2.2.2.2.2.1 _ (List.mem_cons_of_mem _ hf.2)) (fun x hx => by rw [hs] at hx; exact hx) (mFs_at hf.1.2) hd (k _ _ _ _ _ _ _ _ _ _ _ _ C hl hP hD hS)
theorem r_getI {i ci f a : Nat} (hk : kd a = ci) (hf : FL M.1.cls i ci f) (hi : isI ci f = true) (hs : fT ci f = (fR ci, (fT ci f).2)) (hd : decode M.2.1 pc = .ok (.getfield i, 3)) (k : At G d M Q (pc + 3) lo (.int (S a f) :: st) S) : At G d M Q pc lo (rv G a :: st) S := r_get hk hf hd (by rw [if_pos hi]) hs k
theorem r_getR {i ci f a b : Nat} (hk : kd a = ci) (hf : FL M.1.cls i ci f) (hi : isI ci f = false) (hs : fT ci f = (fR ci, (fT ci f).2)) (hd : decode M.2.1 pc = .ok (.getfield i, 3)) (hb : rf a f = b) (k : At G d M Q (pc + 3) lo (rv G b :: st) S) : At G d M Q pc lo (rv G a :: st) S := r_get hk hf hd (by rw [hi, hb]; rfl) hs k
theorem r_putT {i ci f a : Nat} {x : Int32} {ty : FieldType} (hk : kd a = ci) (hf : FL M.1.cls i ci f) (hi : isI ci f = true) (hs : fT ci f = (fR ci, (fT ci f).2)) (hfin : (fT ci f).2.2.2 = false) (hty : fY ci f = ty) (hn : narrow ty (.int x) = .int x) (hfit : fits ty (.int x) = true) (hd : decode M.2.1 pc = .ok (.putfield i, 3)) (k : At G d M Q (pc + 3) lo st (up1 S a (upd (S a) f x))) : At G d M Q pc lo (.int x :: rv G a :: st) S := by
  intro p e s m args below meth c A H locs ls C hl hP hD hS
  have ha : a < 190 := kd_lt (by have := hf.1.1; omega)
  refine va_put (D := G.2.1) (ci := ci) (C := fR ci) (T := fT ci) (N := fN ci) (ty := ty) C.1 C.2.1 C.2.2.2.2.2.1 (fun w hw => List.mem_cons_of_mem _ (cls_in ci hf.1.1 w hw)) (fY ci) (cls_ty ci hf.1.1) (cls_nm ci hf.1.1) C.2.2.2.2.1 C.2.2.2.2.2.2.2.1 hP hD hS a (hasO hk hf.1.1) (cls_at ci hf.1.1) f hf.1.2 (C.2.2.2.2.2.1 _ (List.mem_cons_of_mem _ hf.2)) (fun x hx => by rw [hs] at hx; exact hx) hfin (by rw [cls_ty ci hf.1.1 f hf.1.2, hty]) hn hfit (by rw [mFs_len]; exact hf.1.2) hd (fun H1 locs1 hP hD hS => ?_)
  rw [mFs_set hi, ← cellE_o hk hf.1.1, mW_set G ha (fun b hb => up1_n hb)] at hP hD
  exact k _ _ _ _ _ _ _ _ _ _ _ _ C hl hP hD hS
theorem r_putI {i ci f a : Nat} {x : Int32} (hk : kd a = ci) (hf : FL M.1.cls i ci f) (hi : isI ci f = true) (hs : fT ci f = (fR ci, (fT ci f).2)) (hfin : (fT ci f).2.2.2 = false) (hty : fY ci f = .int) (hd : decode M.2.1 pc = .ok (.putfield i, 3)) (k : At G d M Q (pc + 3) lo st (up1 S a (upd (S a) f x))) : At G d M Q pc lo (.int x :: rv G a :: st) S := r_putT hk hf hi hs hfin hty rfl rfl hd k
theorem in_of {x : Int32} {n N : Nat} (hx : x = nI n) (h : n < N) (hN : N < 2 ^ 31) : vp_in x N := by rw [hx]; exact vp_in_nI h hN
theorem ln_small (a : Nat) : ln a < 2 ^ 31 := by
  unfold ln
  by_cases h : a < 190
  · exact (by decide +kernel : ∀ a, a < 190 → lnL.getD a 0 < 2 ^ 31) a h
  · rw [List.getD_eq_getElem?_getD, List.getElem?_eq_none (by show 190 ≤ a; omega)]; decide
theorem r_iald {a j : Nat} {x : Int32} (hk : kd a = 6) (hx : x = nI j) (hj : j < ln a) (hd : decode M.2.1 pc = .ok (.iaload, 1)) (k : At G d M Q (pc + 1) lo (.int (S a j) :: st) S) : At G d M Q pc lo (.int x :: rv G a :: st) S := by
  intro p e s m args below meth c A H locs ls C hl hP hD hS
  have h1 := va_iald (tys := mTy G) C.1 C.2.1 C.2.2.2.2.2.2.2.1 hP a 0 (by rw [mW_at G S (kd_lt (by omega)), cellE_i hk (by decide) (by decide)]) rfl (in_of hx hj (ln_small a)) hd (rest := st) (ls := ls) (pc := pc) (m := m) (p := p) (l := G.1) (e := e) (R := mRm d) (s := s) (args := args) (below := below) (meth := meth) (c := c) (H := H) (locs := locs) (cells := 0) (slots := 0) (Q := MQ below (mPost G M Q A) args s 0 0 A) (D := G.2.1)
  have e : x.toNatClampNeg = j := by rw [hx]; exact nI_clamp (by have := ln_small a; omega)
  rw [e] at h1
  exact h1 (k _ _ _ _ _ _ _ _ _ _ _ _ C hl hP hD hS)
theorem r_cald {a j : Nat} {x : Int32} (hk : kd a = 7) (hx : x = nI j) (hj : j < ln a) (hd : decode M.2.1 pc = .ok (.caload, 1)) (k : At G d M Q (pc + 1) lo (.int (S a j) :: st) S) : At G d M Q pc lo (.int x :: rv G a :: st) S := by
  intro p e s m args below meth c A H locs ls C hl hP hD hS
  have h1 := va_cald (tys := mTy G) C.1 C.2.1 C.2.2.2.2.2.2.2.1 hP a 1 (by rw [mW_at G S (kd_lt (by omega)), cellE_i hk (by decide) (by decide)]) rfl (in_of hx hj (ln_small a)) hd (rest := st) (ls := ls) (pc := pc) (m := m) (p := p) (l := G.1) (e := e) (R := mRm d) (s := s) (args := args) (below := below) (meth := meth) (c := c) (H := H) (locs := locs) (cells := 0) (slots := 0) (Q := MQ below (mPost G M Q A) args s 0 0 A) (D := G.2.1)
  have e : x.toNatClampNeg = j := by rw [hx]; exact nI_clamp (by have := ln_small a; omega)
  rw [e] at h1
  exact h1 (k _ _ _ _ _ _ _ _ _ _ _ _ C hl hP hD hS)
theorem r_zald {a j : Nat} {x : Int32} (hk : kd a = 8) (hx : x = nI j) (hj : j < ln a) (hd : decode M.2.1 pc = .ok (.baload, 1)) (k : At G d M Q (pc + 1) lo (.int (S a j) :: st) S) : At G d M Q pc lo (.int x :: rv G a :: st) S := by
  intro p e s m args below meth c A H locs ls C hl hP hD hS
  have h1 := va_zald (tys := mTy G) C.1 C.2.1 C.2.2.2.2.2.2.2.1 hP a 2 (by rw [mW_at G S (kd_lt (by omega)), cellE_i hk (by decide) (by decide)]) rfl (in_of hx hj (ln_small a)) hd (rest := st) (ls := ls) (pc := pc) (m := m) (p := p) (l := G.1) (e := e) (R := mRm d) (s := s) (args := args) (below := below) (meth := meth) (c := c) (H := H) (locs := locs) (cells := 0) (slots := 0) (Q := MQ below (mPost G M Q A) args s 0 0 A) (D := G.2.1)
  have e : x.toNatClampNeg = j := by rw [hx]; exact nI_clamp (by have := ln_small a; omega)
  rw [e] at h1
  exact h1 (k _ _ _ _ _ _ _ _ _ _ _ _ C hl hP hD hS)
theorem r_iast {a j : Nat} {x y : Int32} (hk : kd a = 6) (hx : x = nI j) (hj : j < ln a) (hd : decode M.2.1 pc = .ok (.iastore, 1)) (k : At G d M Q (pc + 1) lo st (up1 S a (upd (S a) j y))) : At G d M Q pc lo (.int y :: .int x :: rv G a :: st) S := by
  intro p e s m args below meth c A H locs ls C hl hP hD hS
  have ha : a < 190 := kd_lt (by omega)
  have e : x.toNatClampNeg = j := by rw [hx]; exact nI_clamp (by have := ln_small a; omega)
  refine va_iast (D := G.2.1) (tys := mTy G) C.1 C.2.1 C.2.2.2.2.2.2.2.1 hP hD hS a 0 (by rw [mW_at G S ha, cellE_i hk (by decide) (by decide)]) rfl (in_of hx hj (ln_small a)) hd (fun H1 locs1 hP hD hS => ?_)
  have e2 : (Sum.inl (G.2.2.1 6, ln a, Sum.inl (upd (S a) x.toNatClampNeg y)) : va_E) = cellE G (up1 S a (upd (S a) j y)) a := by rw [cellE_i hk (by decide) (by decide), up1_s, e]
  rw [e2, mW_set G ha (fun b hb => up1_n hb)] at hP hD
  exact k _ _ _ _ _ _ _ _ _ _ _ _ C hl hP hD hS
theorem r_cast {a j : Nat} {x y : Int32} (hk : kd a = 7) (hx : x = nI j) (hj : j < ln a) (hd : decode M.2.1 pc = .ok (.castore, 1)) (k : At G d M Q (pc + 1) lo st (up1 S a (upd (S a) j (vp_nar .char y)))) : At G d M Q pc lo (.int y :: .int x :: rv G a :: st) S := by
  intro p e s m args below meth c A H locs ls C hl hP hD hS
  have ha : a < 190 := kd_lt (by omega)
  have e : x.toNatClampNeg = j := by rw [hx]; exact nI_clamp (by have := ln_small a; omega)
  refine va_cast (D := G.2.1) (tys := mTy G) C.1 C.2.1 C.2.2.2.2.2.2.2.1 hP hD hS a 1 (by rw [mW_at G S ha, cellE_i hk (by decide) (by decide)]) rfl (in_of hx hj (ln_small a)) hd (fun H1 locs1 hP hD hS => ?_)
  have e2 : (Sum.inl (G.2.2.1 7, ln a, Sum.inl (upd (S a) x.toNatClampNeg (vp_nar .char y))) : va_E) = cellE G (up1 S a (upd (S a) j (vp_nar .char y))) a := by rw [cellE_i hk (by decide) (by decide), up1_s, e]
  rw [e2, mW_set G ha (fun b hb => up1_n hb)] at hP hD
  exact k _ _ _ _ _ _ _ _ _ _ _ _ C hl hP hD hS
theorem r_zast {a j : Nat} {x y : Int32} (hk : kd a = 8) (hx : x = nI j) (hj : j < ln a) (hd : decode M.2.1 pc = .ok (.bastore, 1)) (k : At G d M Q (pc + 1) lo st (up1 S a (upd (S a) j (vp_nar .boolean y)))) : At G d M Q pc lo (.int y :: .int x :: rv G a :: st) S := by
  intro p e s m args below meth c A H locs ls C hl hP hD hS
  have ha : a < 190 := kd_lt (by omega)
  have e : x.toNatClampNeg = j := by rw [hx]; exact nI_clamp (by have := ln_small a; omega)
  refine va_zast (D := G.2.1) (tys := mTy G) C.1 C.2.1 C.2.2.2.2.2.2.2.1 hP hD hS a 2 (by rw [mW_at G S ha, cellE_i hk (by decide) (by decide)]) rfl (in_of hx hj (ln_small a)) hd (fun H1 locs1 hP hD hS => ?_)
  have e2 : (Sum.inl (G.2.2.1 8, ln a, Sum.inl (upd (S a) x.toNatClampNeg (vp_nar .boolean y))) : va_E) = cellE G (up1 S a (upd (S a) j (vp_nar .boolean y))) a := by rw [cellE_i hk (by decide) (by decide), up1_s, e]
  rw [e2, mW_set G ha (fun b hb => up1_n hb)] at hP hD
  exact k _ _ _ _ _ _ _ _ _ _ _ _ C hl hP hD hS
theorem r_aald9 {a j b : Nat} {x : Int32} (hk : kd a = 9) (hx : x = nI j) (hj : j < ln a) (hb : rf a j = b) (hd : decode M.2.1 pc = .ok (.aaload, 1)) (k : At G d M Q (pc + 1) lo (rv G b :: st) S) : At G d M Q pc lo (.int x :: rv G a :: st) S := by
  intro p e s m args below meth c A H locs ls C hl hP hD hS
  have e : x.toNatClampNeg = j := by rw [hx]; exact nI_clamp (by have := ln_small a; omega)
  refine va_aldq (D := G.2.1) (tys := mTy G) C.1 C.2.1 C.2.2.2.2.2.2.2.1 hP a 3 (by rw [mW_at G S (kd_lt (by omega)), cellE_r hk (by decide)]) rfl (in_of hx hj (ln_small a)) hd ?_
  show W p G.1 _ _ s m args below meth c H locs 0 0 _ (F0 m (pc + 1) ls (rv G (rf a x.toNatClampNeg) :: st))
  rw [e, hb]
  exact k _ _ _ _ _ _ _ _ _ _ _ _ C hl hP hD hS
theorem r_aald10 {a j b : Nat} {x : Int32} (hk : kd a = 10) (hx : x = nI j) (hj : j < ln a) (hb : rf a j = b) (hd : decode M.2.1 pc = .ok (.aaload, 1)) (k : At G d M Q (pc + 1) lo (rv G b :: st) S) : At G d M Q pc lo (.int x :: rv G a :: st) S := by
  intro p e s m args below meth c A H locs ls C hl hP hD hS
  have e : x.toNatClampNeg = j := by rw [hx]; exact nI_clamp (by have := ln_small a; omega)
  refine va_aldq (D := G.2.1) (tys := mTy G) C.1 C.2.1 C.2.2.2.2.2.2.2.1 hP a 4 (by rw [mW_at G S (kd_lt (by omega)), cellE_r hk (by decide)]) rfl (in_of hx hj (ln_small a)) hd ?_
  show W p G.1 _ _ s m args below meth c H locs 0 0 _ (F0 m (pc + 1) ls (rv G (rf a x.toNatClampNeg) :: st))
  rw [e, hb]
  exact k _ _ _ _ _ _ _ _ _ _ _ _ C hl hP hD hS
theorem r_copy {a b sp dp n i : Nat} {x y z : Int32} (hka : kd a = 6) (hkb : kd b = 6) (hx : x = nI sp) (hy : y = nI dp) (hz : z = nI n) (h1 : sp + n ≤ ln a) (h2 : dp + n ≤ ln b) (hl1 : Cond.methodLink M.1.cls i arraycopyName ∈ gtbl) (hr : (st.map fun v => v.category).sum = 0) (hd0 : 4 ≤ d) (hd : decode M.2.1 pc = .ok (.invokestatic i, 3)) (k : At G d M Q (pc + 3) lo st (up1 S b (va_cpy (S a) (S b) sp dp n))) : At G d M Q pc lo (.int z :: .int y :: rv G b :: .int x :: rv G a :: st) S := by
  intro p e s m args below meth c A H locs ls C hl hP hD hS
  have sa := ln_small a
  have sb := ln_small b
  have e1 : x.toNatClampNeg = sp := by rw [hx]; exact nI_clamp (by omega)
  have e2 : y.toNatClampNeg = dp := by rw [hy]; exact nI_clamp (by omega)
  have e3 : z.toNatClampNeg = n := by rw [hz]; exact nI_clamp (by omega)
  have ha : a < 190 := kd_lt (by omega)
  have hb : b < 190 := kd_lt (by omega)
  refine va_copyi (D := G.2.1) (tys := mTy G) (ty := .int) C.1 C.2.1 (C.2.2.1.trans hl.1.symm) C.2.2.2.2.1 (C.2.2.2.2.2.1 _ (List.mem_cons_of_mem _ hl1)) (C.2.2.2.2.2.1 _ (List.mem_cons_of_mem _ cp_nat)) (C.2.2.2.2.2.1 _ (List.mem_cons_of_mem _ cp_sta)) (C.2.2.2.2.2.1 _ (List.mem_cons_of_mem _ cp_ini)) C.2.2.2.2.2.2.2.1 hP hD hS a b 0 0 (by rw [mW_at G S ha, cellE_i hka (by decide) (by decide)]) (by rw [mW_at G S hb, cellE_i hkb (by decide) (by decide)]) rfl rfl rfl (by rw [hx]; exact nI_pos (by omega)) (by rw [hy]; exact nI_pos (by omega)) (by rw [hz]; exact nI_pos (by omega)) (by rw [e1, e3]; exact h1) (by rw [e2, e3]; exact h2) (fun _ _ => rfl) (show 1 ≤ d by omega) (show _ ≤ 30 * d by rw [hr]; exact cp_words hd0) hd (fun H1 locs1 hP hD hS => ?_)
  have e4 : (Sum.inl (G.2.2.1 6, ln b, Sum.inl (va_cpy (S a) (S b) x.toNatClampNeg y.toNatClampNeg z.toNatClampNeg)) : va_E) = cellE G (up1 S b (va_cpy (S a) (S b) sp dp n)) b := by rw [cellE_i hkb (by decide) (by decide), up1_s, e1, e2, e3]
  rw [e4, mW_set G hb (fun b hb => up1_n hb)] at hP hD
  exact k _ _ _ _ _ _ _ _ _ _ _ _ C hl hP hD hS
theorem r_zret {v : Int32} {ty : FieldType} (hr : M.2.2.2 = some ty) (hn : narrow ty (.int v) = .int v) (hd : decode M.2.1 pc = .ok (.ireturn, 1)) (hq : Q (some v) S) : At G d M Q pc lo [.int v] S := by
  intro p e s m args below meth c A H locs ls C hl hP hD hS
  refine W.zret (ty := ty) C.1 C.2.1 (C.2.2.2.1.trans hr) hn (fun t ht hW => ?_) hS.2.2 hd C.2.2.2.2.2.2.1
  unfold mPost
  rw [hr]
  exact ⟨⟨v, S, rfl, hq, by rw [ht]; exact hP, va_K.moved hW.alike C.2.2.2.2.2.2.2.1, hD⟩, hS.F ht⟩
theorem r_iret {v : Int32} (hr : M.2.2.2 = some .int) (hd : decode M.2.1 pc = .ok (.ireturn, 1)) (hq : Q (some v) S) : At G d M Q pc lo [.int v] S := r_zret hr rfl hd hq
theorem r_vret (hr : M.2.2.2 = none) (hd : decode M.2.1 pc = .ok (.return_, 1)) (hq : Q none S) : At G d M Q pc lo [] S := by
  intro p e s m args below meth c A H locs ls C hl hP hD hS
  refine W.vret C.1 C.2.1 (C.2.2.2.1.trans hr) (fun t ht hW => ?_) hS.2.2 hd C.2.2.2.2.2.2.1
  unfold mPost
  rw [hr]
  exact ⟨⟨S, rfl, hq, by rw [ht]; exact hP, va_K.moved hW.alike C.2.2.2.2.2.2.2.1, hD⟩, hS.F ht⟩
/-- what the tables say of a method that is called -/
def CM (M' : mM) (n : Nat) : Prop := (Cond.code M'.1 M'.2.1 M'.2.2.1 M'.2.2.2 ∈ gtbl ∧ Cond.initialized M'.1.cls ∈ gtbl ∧ M'.2.2.1 ≤ 11) ∧ M'.1.cls ≠ "java/lang/invoke/MethodHandle" ∧ M'.1.cls ≠ "java/lang/invoke/VarHandle" ∧ (parseMethodDescriptor M'.1.desc).map (fun d => d.parameters.length) = some n
def CV (M' : mM) (ci n : Nat) : Prop := CM M' n ∧ (ci < 6 ∧ M'.1.cls = fR ci) ∧ Cond.instanceMethod M'.1 ∈ gtbl ∧ Cond.selects M'.1.cls M'.1 M'.1 ∈ gtbl
def CS (M' : mM) (n : Nat) : Prop := CM M' n ∧ Cond.static M'.1 ∈ gtbl
def ML (own : String) (i : Nat) (M' : mM) : Prop := Cond.methodLink own i M'.1 ∈ gtbl
theorem gi_tbl {big : List Cond} (hb : ∀ w ∈ gtbl, w ∈ big) {w : Cond} (h : w ∈ gtbl) : w ∈ big ∧ ((w.onTables && w.keeps) = true ∨ ∃ ty, w = .arrayClass ty) := ⟨hb w h, good_of_word (tbl_good h)⟩
theorem gi_ws {big : List Cond} (hb : ∀ w ∈ gtbl, w ∈ big) {M' : mM} {n : Nat} (h : CM M' n) : GoodIn big (mWs M') := by
  intro w hw
  rcases List.mem_cons.mp hw with rfl | hw
  · exact gi_tbl hb h.1.1
  · exact gi_tbl hb hw
theorem gi_V {big : List Cond} (hb : ∀ w ∈ gtbl, w ∈ big) {M' : mM} {own : String} {i ci n : Nat} (h : CV M' ci n) (hl : ML own i M') : GoodIn big (wsV own i M'.1.cls M'.1 (mWs M')) := by
  intro w hw
  rcases List.mem_append.mp hw with hw | hw
  · simp only [List.mem_cons, List.not_mem_nil, or_false] at hw
    rcases hw with rfl | rfl | rfl | rfl
    · exact gi_tbl hb hl
    · exact gi_tbl hb h.2.2.1
    · exact gi_tbl hb h.2.2.2
    · exact gi_tbl hb h.1.1.2.1
  · exact gi_ws hb h.1 w hw
theorem gi_S {big : List Cond} (hb : ∀ w ∈ gtbl, w ∈ big) {M' : mM} {own : String} {i n : Nat} (h : CS M' n) (hl : ML own i M') : GoodIn big (va_wsS own i M'.1 (mWs M')) := by
  intro w hw
  rcases List.mem_append.mp hw with hw | hw
  · simp only [List.mem_cons, List.not_mem_nil, or_false] at hw
    rcases hw with rfl | rfl | rfl
    · exact gi_tbl hb hl
    · exact gi_tbl hb h.2
    · exact gi_tbl hb h.1.1.2.1
  · exact gi_ws hb h.1 w hw
theorem room_ok {d k : Nat} (h : k ≤ 11) : (mRm d).frames + 1 ≤ (mRm (d + 1)).frames ∧ 8 + (k + 11) + (mRm d).locals ≤ (mRm (d + 1)).locals := by
  refine ⟨Nat.le_refl _, ?_⟩
  show 8 + (k + 11) + 30 * d ≤ 30 * (d + 1)
  omega
theorem blindC {av : List Value} {S' : mS} {sz : Nat} : FrameBlind (va_Pc av (fun U => U.heap.size = sz ∧ va_P G.2.1 mcl (mW G S') U.heap ∧ va_K G.2.1 mcl (mTy G) U ∧ va_D (fun _ => True) (mW G S'))) := fun a U g mk q => by
  obtain ⟨q0, q1, qP, qK, qD⟩ := q
  exact ⟨q0, q1, qP, va_K.moved (u := U) (U := U.calling g mk a) (Vm.Alike.refl U.vm) qK, qD⟩
theorem freeC {A : Nat → Prop} {S : mS} {H0 H : Heap} {locs : List Loc} (hD : va_D A (mW G S)) (hS : va_S A H0 H locs) (hA : ∀ q, H0.size ≤ q → A q) : ∀ q, va_A (mW G S) H.size q → A q := by
  intro q h
  rcases h with ⟨k, e, h⟩ | h
  · exact hD.2 k (q, e) h
  · exact hA q (Nat.le_trans hS.1 h)
theorem apartC {A B : Nat → Prop} {S u : mS} (hD : va_D A (mW G S)) (hu : va_D B (mW G u)) : va_D A (mW G u) := by
  refine ⟨hu.1, fun k q hk => ?_⟩
  have hk9 : k < 190 := by
    have := (List.getElem?_eq_some_iff.mp hk).1
    simpa [mW] using this
  rw [mW_at G u hk9] at hk
  cases hk
  have h9 := hD.2 k _ (mW_at G S hk9)
  exact h9
theorem r_callVi {M' : mM} {As rest : List Value} {Qc : Option Int32 → mS → Prop} {ci a n i : Nat} (hc : CV M' ci n) (hk : kd a = ci) (hl1 : ML M.1.cls i M') {ty : FieldType} (hr : M'.2.2.2 = some ty) (hst : st = As.reverse ++ rv G a :: rest) (hn : As.length = n) (hW : (rest.map fun v => v.category).sum ≤ 8) (hd : decode M.2.1 pc = .ok (.invokevirtual i, 3)) (hcall : Call G d M' (rv G a :: As) S Qc) (k : ∀ r u, Qc (some r) u → At G (d + 1) M Q (pc + 3) lo (.int r :: rest) u) : At G (d + 1) M Q pc lo st S := by
  intro p e s m args below meth c A H locs ls C hl hP hD hS
  subst hst
  have hKK := C.2.2.2.2.2.2.2.1
  have hM := hcall H.size
  have hF := freeC (G := G) hD hS C.2.2.2.2.2.2.2.2
  have e0 : mPost G M' Qc (va_A (mW G S) H.size) = va_Qi (fun r u => Qc (some r) u) (mBh G (va_A (mW G S) H.size)) (va_A (mW G S) H.size) := by unfold mPost; rw [hr]
  rw [e0] at hM
  have hbl := blindC (G := G) (av := rv G a :: As) (S' := S) (sz := H.size)
  refine va_calli (A1 := va_A (mW G S) H.size) (va_runV (R := mRm (d + 1)) (As := As) (rest := rest) ⟨C.1, C.2.1, C.2.2.1, C.2.2.2.2.1, C.2.2.2.2.2.1⟩ hM (cwV n C.2.2.2.2.2.1 (gi_V (fun w hw => List.mem_cons_of_mem _ hw) hc hl1) rfl rfl rfl ⟨rfl, hc.1.2⟩ (room_ok hc.1.1.2.2)) ⟨hbl, by rw [hc.2.1.2]; exact va_recv (D := G.2.1) hKK hP (cls_at ci hc.2.1.1) (hasO hk hc.2.1.1), fun U hU hW => ⟨rfl, by rw [hU], by rw [hU]; exact hP, va_K.moved hW.alike hKK, hD.weaken (fun _ _ _ _ => trivial)⟩⟩ rfl hn hl.1 rfl (lv_room hW) hd ⟨Nat.le_refl 0, Nat.le_refl 0⟩) hS (fun q _ h => hF q h) hF (fun r u t H1 locs1 ht hvm hw hB hz1 hk1 hS1 => ?_)
  obtain ⟨hP1, hK1, hD1⟩ := hB
  rw [ht] at hP1
  exact k r u hw _ _ _ _ _ _ _ _ _ _ _ _ C hl hP1 (apartC hD hD1) hS1
theorem r_callVv {M' : mM} {As rest : List Value} {Qc : Option Int32 → mS → Prop} {ci a n i : Nat} (hc : CV M' ci n) (hk : kd a = ci) (hl1 : ML M.1.cls i M') (hr : M'.2.2.2 = none) (hst : st = As.reverse ++ rv G a :: rest) (hn : As.length = n) (hW : (rest.map fun v => v.category).sum ≤ 8) (hd : decode M.2.1 pc = .ok (.invokevirtual i, 3)) (hcall : Call G d M' (rv G a :: As) S Qc) (k : ∀ u, Qc none u → At G (d + 1) M Q (pc + 3) lo rest u) : At G (d + 1) M Q pc lo st S := by
  intro p e s m args below meth c A H locs ls C hl hP hD hS
  subst hst
  have hKK := C.2.2.2.2.2.2.2.1
  have hM := hcall H.size
  have hF := freeC (G := G) hD hS C.2.2.2.2.2.2.2.2
  have e0 : mPost G M' Qc (va_A (mW G S) H.size) = va_Qv (fun u => Qc none u) (mBh G (va_A (mW G S) H.size)) (va_A (mW G S) H.size) := by unfold mPost; rw [hr]
  rw [e0] at hM
  have hbl := blindC (G := G) (av := rv G a :: As) (S' := S) (sz := H.size)
  refine va_callv (A1 := va_A (mW G S) H.size) (va_runV (R := mRm (d + 1)) (As := As) (rest := rest) ⟨C.1, C.2.1, C.2.2.1, C.2.2.2.2.1, C.2.2.2.2.2.1⟩ hM (cwV n C.2.2.2.2.2.1 (gi_V (fun w hw => List.mem_cons_of_mem _ hw) hc hl1) rfl rfl rfl ⟨rfl, hc.1.2⟩ (room_ok hc.1.1.2.2)) ⟨hbl, by rw [hc.2.1.2]; exact va_recv (D := G.2.1) hKK hP (cls_at ci hc.2.1.1) (hasO hk hc.2.1.1), fun U hU hW => ⟨rfl, by rw [hU], by rw [hU]; exact hP, va_K.moved hW.alike hKK, hD.weaken (fun _ _ _ _ => trivial)⟩⟩ rfl hn hl.1 rfl (lv_room hW) hd ⟨Nat.le_refl 0, Nat.le_refl 0⟩) hS (fun q _ h => hF q h) hF (fun u t H1 locs1 ht hvm hw hB hz1 hk1 hS1 => ?_)
  obtain ⟨hP1, hK1, hD1⟩ := hB
  rw [ht] at hP1
  exact k u hw _ _ _ _ _ _ _ _ _ _ _ _ C hl hP1 (apartC hD hD1) hS1
theorem r_callSi {M' : mM} {As rest : List Value} {Qc : Option Int32 → mS → Prop} {n i : Nat} (hc : CS M' n) (hl1 : ML M.1.cls i M') {ty : FieldType} (hr : M'.2.2.2 = some ty) (hst : st = As.reverse ++ rest) (hn : As.length = n) (hW : (rest.map fun v => v.category).sum ≤ 8) (hd : decode M.2.1 pc = .ok (.invokestatic i, 3)) (hcall : Call G d M' (As) S Qc) (k : ∀ r u, Qc (some r) u → At G (d + 1) M Q (pc + 3) lo (.int r :: rest) u) : At G (d + 1) M Q pc lo st S := by
  intro p e s m args below meth c A H locs ls C hl hP hD hS
  subst hst
  have hKK := C.2.2.2.2.2.2.2.1
  have hM := hcall H.size
  have hF := freeC (G := G) hD hS C.2.2.2.2.2.2.2.2
  have e0 : mPost G M' Qc (va_A (mW G S) H.size) = va_Qi (fun r u => Qc (some r) u) (mBh G (va_A (mW G S) H.size)) (va_A (mW G S) H.size) := by unfold mPost; rw [hr]
  rw [e0] at hM
  have hbl := blindC (G := G) (av := As) (S' := S) (sz := H.size)
  refine va_calli (A1 := va_A (mW G S) H.size) (va_runS (R := mRm (d + 1)) (As := As) (rest := rest) ⟨C.1, C.2.1, C.2.2.1, C.2.2.2.2.1, C.2.2.2.2.2.1⟩ hM (va_cwS n C.2.2.2.2.2.1 (gi_S (fun w hw => List.mem_cons_of_mem _ hw) hc hl1) rfl rfl rfl hc.1.2 (room_ok hc.1.1.2.2)) ⟨hbl, fun U hU hW => ⟨rfl, by rw [hU], by rw [hU]; exact hP, va_K.moved hW.alike hKK, hD.weaken (fun _ _ _ _ => trivial)⟩⟩ rfl hn hl.1 rfl (lv_room hW) hd ⟨Nat.le_refl 0, Nat.le_refl 0⟩) hS (fun q _ h => hF q h) hF (fun r u t H1 locs1 ht hvm hw hB hz1 hk1 hS1 => ?_)
  obtain ⟨hP1, hK1, hD1⟩ := hB
  rw [ht] at hP1
  exact k r u hw _ _ _ _ _ _ _ _ _ _ _ _ C hl hP1 (apartC hD hD1) hS1
theorem r_callSv {M' : mM} {As rest : List Value} {Qc : Option Int32 → mS → Prop} {n i : Nat} (hc : CS M' n) (hl1 : ML M.1.cls i M') (hr : M'.2.2.2 = none) (hst : st = As.reverse ++ rest) (hn : As.length = n) (hW : (rest.map fun v => v.category).sum ≤ 8) (hd : decode M.2.1 pc = .ok (.invokestatic i, 3)) (hcall : Call G d M' (As) S Qc) (k : ∀ u, Qc none u → At G (d + 1) M Q (pc + 3) lo rest u) : At G (d + 1) M Q pc lo st S := by
  intro p e s m args below meth c A H locs ls C hl hP hD hS
  subst hst
  have hKK := C.2.2.2.2.2.2.2.1
  have hM := hcall H.size
  have hF := freeC (G := G) hD hS C.2.2.2.2.2.2.2.2
  have e0 : mPost G M' Qc (va_A (mW G S) H.size) = va_Qv (fun u => Qc none u) (mBh G (va_A (mW G S) H.size)) (va_A (mW G S) H.size) := by unfold mPost; rw [hr]
  rw [e0] at hM
  have hbl := blindC (G := G) (av := As) (S' := S) (sz := H.size)
  refine va_callv (A1 := va_A (mW G S) H.size) (va_runS (R := mRm (d + 1)) (As := As) (rest := rest) ⟨C.1, C.2.1, C.2.2.1, C.2.2.2.2.1, C.2.2.2.2.2.1⟩ hM (va_cwS n C.2.2.2.2.2.1 (gi_S (fun w hw => List.mem_cons_of_mem _ hw) hc hl1) rfl rfl rfl hc.1.2 (room_ok hc.1.1.2.2)) ⟨hbl, fun U hU hW => ⟨rfl, by rw [hU], by rw [hU]; exact hP, va_K.moved hW.alike hKK, hD.weaken (fun _ _ _ _ => trivial)⟩⟩ rfl hn hl.1 rfl (lv_room hW) hd ⟨Nat.le_refl 0, Nat.le_refl 0⟩) hS (fun q _ h => hF q h) hF (fun u t H1 locs1 ht hvm hw hB hz1 hk1 hS1 => ?_)
  obtain ⟨hP1, hK1, hD1⟩ := hB
  rw [ht] at hP1
  exact k u hw _ _ _ _ _ _ _ _ _ _ _ _ C hl hP1 (apartC hD hD1) hS1
theorem r_callViF {M' : mM} {As rest : List Value} {x : Int32} {S2 : mS} {ci a n i : Nat} (hc : CV M' ci n) (hk : kd a = ci) (hl1 : ML M.1.cls i M') {ty : FieldType} (hr : M'.2.2.2 = some ty) (hst : st = As.reverse ++ rv G a :: rest) (hn : As.length = n) (hW : (rest.map fun v => v.category).sum ≤ 8) (hd : decode M.2.1 pc = .ok (.invokevirtual i, 3)) (hcall : Call G d M' (rv G a :: As) S (fun v u => v = some x ∧ u = S2)) (k : At G (d + 1) M Q (pc + 3) lo (.int x :: rest) S2) : At G (d + 1) M Q pc lo st S :=
  r_callVi hc hk hl1 hr hst hn hW hd hcall (fun r u h => by obtain ⟨h1, rfl⟩ := h; cases h1; exact k)
theorem r_callVvF {M' : mM} {As rest : List Value} {S2 : mS} {ci a n i : Nat} (hc : CV M' ci n) (hk : kd a = ci) (hl1 : ML M.1.cls i M') (hr : M'.2.2.2 = none) (hst : st = As.reverse ++ rv G a :: rest) (hn : As.length = n) (hW : (rest.map fun v => v.category).sum ≤ 8) (hd : decode M.2.1 pc = .ok (.invokevirtual i, 3)) (hcall : Call G d M' (rv G a :: As) S (fun v u => v = none ∧ u = S2)) (k : At G (d + 1) M Q (pc + 3) lo rest S2) : At G (d + 1) M Q pc lo st S :=
  r_callVv hc hk hl1 hr hst hn hW hd hcall (fun u h => by obtain ⟨-, rfl⟩ := h; exact k)
theorem r_callSiF {M' : mM} {As rest : List Value} {x : Int32} {S2 : mS} {n i : Nat} (hc : CS M' n) (hl1 : ML M.1.cls i M') {ty : FieldType} (hr : M'.2.2.2 = some ty) (hst : st = As.reverse ++ rest) (hn : As.length = n) (hW : (rest.map fun v => v.category).sum ≤ 8) (hd : decode M.2.1 pc = .ok (.invokestatic i, 3)) (hcall : Call G d M' (As) S (fun v u => v = some x ∧ u = S2)) (k : At G (d + 1) M Q (pc + 3) lo (.int x :: rest) S2) : At G (d + 1) M Q pc lo st S :=
  r_callSi hc hl1 hr hst hn hW hd hcall (fun r u h => by obtain ⟨h1, rfl⟩ := h; cases h1; exact k)
theorem r_callSvF {M' : mM} {As rest : List Value} {S2 : mS} {n i : Nat} (hc : CS M' n) (hl1 : ML M.1.cls i M') (hr : M'.2.2.2 = none) (hst : st = As.reverse ++ rest) (hn : As.length = n) (hW : (rest.map fun v => v.category).sum ≤ 8) (hd : decode M.2.1 pc = .ok (.invokestatic i, 3)) (hcall : Call G d M' (As) S (fun v u => v = none ∧ u = S2)) (k : At G (d + 1) M Q (pc + 3) lo rest S2) : At G (d + 1) M Q pc lo st S :=
  r_callSv hc hl1 hr hst hn hW hd hcall (fun u h => by obtain ⟨-, rfl⟩ := h; exact k)
end ROWS
