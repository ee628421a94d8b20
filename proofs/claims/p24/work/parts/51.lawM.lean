/-! the law: a layer over W whose world is the law's own int arrays and the class's cells -/
abbrev mX : Type := List (Nat × Nat × (Nat → Int32))
abbrev mZ : Type := mS × mX × Nat × Nat
def xE (G : mG) (x : Nat × Nat × (Nat → Int32)) : Nat × va_E := (x.1, .inl (G.2.2.1 6, x.2.1, .inl x.2.2))
def xW (G : mG) (X : mX) : va_W := X.map (xE G)
def zW (G : mG) (Z : mZ) : va_W := xW G Z.2.1 ++ mW G Z.1
def mRl (f w nc ns : Nat) : Room := { frames := f, cells := nc, slots := ns, locals := w }
def Lt (G : mG) (f w nc ns : Nat) (M : mM) (Q : Option Int32 → mS → Prop) (pc : Nat) (lo : List (Nat × Value)) (st : List Value) (Z : mZ) : Prop :=
  ∀ (p : Program) (e : Env) (s : State) (m : MethodId) (args : Array Value) (below : List Frame) (meth : Method) (c : Code) (A : Nat → Prop) (H : Heap) (locs : List Loc) (ls : Array Slot),
    mCx G M A p s m args meth c → lv_has ls M.2.2.1 lo → va_P G.2.1 mcl (zW G Z) H → va_D A (zW G Z) → (va_S A s.heap H locs ∧ Z.2.2.1 ≤ nc ∧ Z.2.2.2 ≤ ns) →
    W p G.1 e (mRl f w nc ns) s m args below meth c H locs Z.2.2.1 Z.2.2.2 (MQ below (mPost G M Q A) args s nc ns A) (F0 m pc ls st)
/-- the triple of a method of the law; nc cells of ns places may come -/
def CallL (G : mG) (f w nc ns : Nat) (M : mM) (av : List Value) (S : mS) (Q : Option Int32 → mS → Prop) : Prop := ∀ sz : Nat,
  Met G.1 M.1 (mWs M) (mRl f w nc ns) (va_Pc av (fun U => U.heap.size = sz ∧ va_P G.2.1 mcl (mW G S) U.heap ∧ va_K G.2.1 mcl (mTy G) U ∧ va_D (fun _ => True) (mW G S))) (mPost G M Q (va_A (mW G S) sz)) nc ns (va_A (mW G S) sz)
theorem callL_of {G : mG} {f w nc ns : Nat} {M : mM} {av : List Value} {S : mS} {Q : Option Int32 → mS → Prop} {lo : List (Nat × Value)} (hy : plainName M.1.cls = true) (hn : (lg_sl av).length ≤ M.2.2.1) (hl : lv_args 0 av = lo) (h : Lt G f w nc ns M Q 0 lo [] (S, [], 0, 0)) : CallL G f w nc ns M av S Q := by
  intro sz
  refine Met.ofW (cc := M.2.1) (maxL := M.2.2.1) (ret := M.2.2.2) hy rfl ?_
  intro p e s m args below meth c s₁ B hml hv
  obtain ⟨rfl, hsz, hP, hK, hD0⟩ := hv
  subst hsz
  rw [lg_entry_eq]
  subst hl
  exact h p e s m _ below meth c _ s.heap [] _ ⟨B.exec, B.bytes, hml, B.returns, findClass_of_methodNamed B.named, atoms_spec (ws := mWs M) B.pre, B.notSynchronized, hK, fun q hq => Or.inr hq⟩ (lv_entry av hn) hP hD0.self ⟨va_S.rf, Nat.zero_le _, Nat.zero_le _⟩
theorem zW_in {G : mG} {Z : mZ} {k : Nat} {q : Nat × va_E} (h : (mW G Z.1)[k]? = some q) : (zW G Z)[(xW G Z.2.1).length + k]? = some q := by
  unfold zW; rw [List.getElem?_append_right (by omega), show (xW G Z.2.1).length + k - (xW G Z.2.1).length = k by omega]; exact h
theorem zP {G : mG} {Z : mZ} {H : Heap} (h : va_P G.2.1 mcl (zW G Z) H) : va_P G.2.1 mcl (mW G Z.1) H := h.by (fun k => (xW G Z.2.1).length + k) (fun _ _ hk => zW_in hk)
theorem zD {G : mG} {Z : mZ} {A : Nat → Prop} (h : va_D A (zW G Z)) : va_D A (mW G Z.1) := h.by (fun k => (xW G Z.2.1).length + k) (fun _ _ hk => zW_in hk) (fun i j _ _ e => by omega)
theorem z_join {A : Nat → Prop} {G : mG} {Z : mZ} {u : mS} {H H1 : Heap} (hP : va_P G.2.1 mcl (zW G Z) H) (hD : va_D A (zW G Z)) (hk : ∀ q : Nat, q < H.size → ¬ va_A (mW G Z.1) H.size q → H1[q]? = H[q]?) (hF : ∀ q, va_A (mW G Z.1) H.size q → A q) (hP1 : va_P G.2.1 mcl (mW G u) H1) (hD1 : va_D (va_A (mW G Z.1) H.size) (mW G u)) (c1 c2 : Nat) : va_P G.2.1 mcl (zW G (u, Z.2.1, c1, c2)) H1 ∧ va_D A (zW G (u, Z.2.1, c1, c2)) := by
  have left : ∀ (k : Nat) (q : Nat × va_E), (xW G Z.2.1)[k]? = some q → (zW G Z)[k]? = some q := fun k q hq => by
    unfold zW; rw [List.getElem?_append_left (List.getElem?_eq_some_iff.mp hq).1]; exact hq
  have apart : ∀ (k : Nat) (q : Nat × va_E), (xW G Z.2.1)[k]? = some q → q.1 < H.size ∧ ¬ va_A (mW G Z.1) H.size q.1 := by
    intro k q hq
    have hk0 : k < (xW G Z.2.1).length := (List.getElem?_eq_some_iff.mp hq).1
    have hq2 := left k q hq
    have hl := (hP k q hq2).lt
    refine ⟨hl, fun h => ?_⟩
    rcases h with ⟨k2, e, h⟩ | h
    · have h2 := zW_in (G := G) (Z := Z) h
      have := hD.1 _ _ q (q.1, e) hq2 h2 rfl
      omega
    · omega
  refine ⟨va_P.app (fun k q hq => ?_) hP1, va_D.app (hD.by (fun k => k) left (fun i j _ _ e => e)) (hD1.weaken (fun k q _ h => hF q.1 h)) (fun i j x y hx hy hxy => ?_)⟩
  · obtain ⟨g1, g2⟩ := apart k q hq
    exact (hP k q (left k q hq)).kept (hk q.1 g1 g2)
  · exact (apart i x hx).2 (by rw [hxy]; exact hD1.2 j y hy)
/-- what the tables say of a method of the law -/
def CLm (M' : mM) (n : Nat) : Prop := (Cond.code M'.1 M'.2.1 M'.2.2.1 M'.2.2.2 ∈ gtbl ∧ Cond.initialized M'.1.cls ∈ gtbl) ∧ M'.1.cls ≠ "java/lang/invoke/MethodHandle" ∧ M'.1.cls ≠ "java/lang/invoke/VarHandle" ∧ (parseMethodDescriptor M'.1.desc).map (fun d => d.parameters.length) = some n ∧ Cond.static M'.1 ∈ gtbl
theorem gi_Lw {big : List Cond} (hb : ∀ w ∈ gtbl, w ∈ big) {M' : mM} {n : Nat} (h : CLm M' n) : GoodIn big (mWs M') := by
  intro w hw
  rcases List.mem_cons.mp hw with rfl | hw
  · exact gi_tbl hb h.1.1
  · exact gi_tbl hb hw
theorem gi_L {big : List Cond} (hb : ∀ w ∈ gtbl, w ∈ big) {M' : mM} {own : String} {i n : Nat} (h : CLm M' n) (hl : ML own i M') : GoodIn big (va_wsS own i M'.1 (mWs M')) := by
  intro w hw
  rcases List.mem_append.mp hw with hw | hw
  · simp only [List.mem_cons, List.not_mem_nil, or_false] at hw
    rcases hw with rfl | rfl | rfl
    · exact gi_tbl hb hl
    · exact gi_tbl hb h.2.2.2.2
    · exact gi_tbl hb h.1.2
  · exact gi_Lw hb h w hw

section ROWS
variable {G : mG} {f wd nc ns : Nat} {M : mM} {Q : Option Int32 → mS → Prop} {pc : Nat} {lo : List (Nat × Value)} {st : List Value} {S : mZ}
theorem z_iconst {n : Int} {v : Int32} (hd : decode M.2.1 pc = .ok (.iconst n, 1)) (hv : Int32.ofInt n = v) (k : Lt G f wd nc ns M Q (pc + 1) lo (.int v :: st) S) : Lt G f wd nc ns M Q pc lo (st) S := by
  intro p e s m args below meth c A H locs ls C hl hP hD hS
  exact lv_iconst C.1 C.2.1 hd hv (k _ _ _ _ _ _ _ _ _ _ _ _ C hl hP hD hS)
theorem z_bipush {n : Int} {v : Int32} (hd : decode M.2.1 pc = .ok (.bipush n, 2)) (hv : (Int8.ofInt n).toInt32 = v) (k : Lt G f wd nc ns M Q (pc + 2) lo (.int v :: st) S) : Lt G f wd nc ns M Q pc lo (st) S := by
  intro p e s m args below meth c A H locs ls C hl hP hD hS
  exact lv_bipush C.1 C.2.1 hd hv (k _ _ _ _ _ _ _ _ _ _ _ _ C hl hP hD hS)
theorem z_sipush {n : Int} {v : Int32} (hd : decode M.2.1 pc = .ok (.sipush n, 3)) (hv : (Int16.ofInt n).toInt32 = v) (k : Lt G f wd nc ns M Q (pc + 3) lo (.int v :: st) S) : Lt G f wd nc ns M Q pc lo (st) S := by
  intro p e s m args below meth c A H locs ls C hl hP hD hS
  exact lv_sipush C.1 C.2.1 hd hv (k _ _ _ _ _ _ _ _ _ _ _ _ C hl hP hD hS)
theorem z_iload_n {n : Fin 4} {x : Int32} (hd : decode M.2.1 pc = .ok (.iload_n n, 1)) (j : Nat) (hg : lo[j]? = some ((n : Nat), .int x)) (k : Lt G f wd nc ns M Q (pc + 1) lo (.int x :: st) S) : Lt G f wd nc ns M Q pc lo (st) S := by
  intro p e s m args below meth c A H locs ls C hl hP hD hS
  exact lv_iload_n C.1 C.2.1 hd rfl (lv_at hl j hg) (k _ _ _ _ _ _ _ _ _ _ _ _ C hl hP hD hS)
theorem z_iload {i : Nat} {x : Int32} (hd : decode M.2.1 pc = .ok (.iload i, 2)) (j : Nat) (hg : lo[j]? = some (i, .int x)) (k : Lt G f wd nc ns M Q (pc + 2) lo (.int x :: st) S) : Lt G f wd nc ns M Q pc lo (st) S := by
  intro p e s m args below meth c A H locs ls C hl hP hD hS
  exact lv_iload C.1 C.2.1 hd (lv_at hl j hg) (k _ _ _ _ _ _ _ _ _ _ _ _ C hl hP hD hS)
theorem z_aload_n {n : Fin 4} {x : Nat} (hd : decode M.2.1 pc = .ok (.aload_n n, 1)) (j : Nat) (hg : lo[j]? = some ((n : Nat), rv G x)) (k : Lt G f wd nc ns M Q (pc + 1) lo (rv G x :: st) S) : Lt G f wd nc ns M Q pc lo (st) S := by
  intro p e s m args below meth c A H locs ls C hl hP hD hS
  exact lv_aload_n C.1 C.2.1 hd rfl (lv_at hl j hg) (k _ _ _ _ _ _ _ _ _ _ _ _ C hl hP hD hS)
theorem z_aload {i : Nat} {x : Nat} (hd : decode M.2.1 pc = .ok (.aload i, 2)) (j : Nat) (hg : lo[j]? = some (i, rv G x)) (k : Lt G f wd nc ns M Q (pc + 2) lo (rv G x :: st) S) : Lt G f wd nc ns M Q pc lo (st) S := by
  intro p e s m args below meth c A H locs ls C hl hP hD hS
  exact lv_aload C.1 C.2.1 hd (lv_at hl j hg) (k _ _ _ _ _ _ _ _ _ _ _ _ C hl hP hD hS)
theorem z_istore_n {n : Fin 4} {i : Nat} {x : Int32} {lo2 : List (Nat × Value)} (hd : decode M.2.1 pc = .ok (.istore_n n, 1)) (hi : (n : Nat) = i) (hn : i < M.2.2.1) (ps : List Nat) (hs : lv_pick ((i, .int x) :: lo.filter (fun q => !(q.1 == i) && !(q.1 + 1 == i && q.2.category == 2))) ps = lo2) (k : Lt G f wd nc ns M Q (pc + 1) lo2 st S) : Lt G f wd nc ns M Q pc lo (.int x :: st) S := by
  intro p e s m args below meth c A H locs ls C hl hP hD hS
  exact lv_istore_n C.1 C.2.1 hd hi hl hn rfl (fun ls' hl => k _ _ _ _ _ _ _ _ _ _ _ _ C (lv_sub hl ps hs) hP hD hS)
theorem z_istore  {i : Nat} {x : Int32} {lo2 : List (Nat × Value)} (hd : decode M.2.1 pc = .ok (.istore i, 2)) (hn : i < M.2.2.1) (ps : List Nat) (hs : lv_pick ((i, .int x) :: lo.filter (fun q => !(q.1 == i) && !(q.1 + 1 == i && q.2.category == 2))) ps = lo2) (k : Lt G f wd nc ns M Q (pc + 2) lo2 st S) : Lt G f wd nc ns M Q pc lo (.int x :: st) S := by
  intro p e s m args below meth c A H locs ls C hl hP hD hS
  exact lv_istore C.1 C.2.1 hd hl hn rfl (fun ls' hl => k _ _ _ _ _ _ _ _ _ _ _ _ C (lv_sub hl ps hs) hP hD hS)
theorem z_astore_n {n : Fin 4} {i : Nat} {x : Nat} {lo2 : List (Nat × Value)} (hd : decode M.2.1 pc = .ok (.astore_n n, 1)) (hi : (n : Nat) = i) (hn : i < M.2.2.1) (ps : List Nat) (hs : lv_pick ((i, rv G x) :: lo.filter (fun q => !(q.1 == i) && !(q.1 + 1 == i && q.2.category == 2))) ps = lo2) (k : Lt G f wd nc ns M Q (pc + 1) lo2 st S) : Lt G f wd nc ns M Q pc lo (rv G x :: st) S := by
  intro p e s m args below meth c A H locs ls C hl hP hD hS
  exact lv_astore_n C.1 C.2.1 hd hi hl hn rfl (fun ls' hl => k _ _ _ _ _ _ _ _ _ _ _ _ C (lv_sub hl ps hs) hP hD hS)
theorem z_astore  {i : Nat} {x : Nat} {lo2 : List (Nat × Value)} (hd : decode M.2.1 pc = .ok (.astore i, 2)) (hn : i < M.2.2.1) (ps : List Nat) (hs : lv_pick ((i, rv G x) :: lo.filter (fun q => !(q.1 == i) && !(q.1 + 1 == i && q.2.category == 2))) ps = lo2) (k : Lt G f wd nc ns M Q (pc + 2) lo2 st S) : Lt G f wd nc ns M Q pc lo (rv G x :: st) S := by
  intro p e s m args below meth c A H locs ls C hl hP hD hS
  exact lv_astore C.1 C.2.1 hd hl hn rfl (fun ls' hl => k _ _ _ _ _ _ _ _ _ _ _ _ C (lv_sub hl ps hs) hP hD hS)
theorem z_iinc {i : Nat} {n : Int} {x w : Int32} {lo2 : List (Nat × Value)} (hd : decode M.2.1 pc = .ok (.iinc i n, 3)) (j : Nat) (hg : lo[j]? = some (i, .int x)) (hw : Int32.ofInt n = w) (hn : i < M.2.2.1) (ps : List Nat) (hs : lv_pick ((i, .int (x + w)) :: lo.filter (fun q => !(q.1 == i) && !(q.1 + 1 == i && q.2.category == 2))) ps = lo2) (k : Lt G f wd nc ns M Q (pc + 3) lo2 st S) : Lt G f wd nc ns M Q pc lo st S := by
  intro p e s m args below meth c A H locs ls C hl hP hD hS
  subst hw
  exact lv_iinc C.1 C.2.1 hd hl (k := j) hg rfl hn rfl (fun ls' hl => k _ _ _ _ _ _ _ _ _ _ _ _ C (lv_sub hl ps hs) hP hD hS)
theorem z_sub {lo2 : List (Nat × Value)} (ps : List Nat) (hs : lv_pick lo ps = lo2) (k : Lt G f wd nc ns M Q pc lo2 st S) : Lt G f wd nc ns M Q pc lo st S := by
  intro p e s m args below meth c A H locs ls C hl hP hD hS
  exact k _ _ _ _ _ _ _ _ _ _ _ _ C (lv_sub hl ps hs) hP hD hS
theorem z_iadd {x y : Int32} (hd : decode M.2.1 pc = .ok (.iadd, 1))  (k : Lt G f wd nc ns M Q (pc + 1) lo (.int (x + y) :: st) S) : Lt G f wd nc ns M Q pc lo (.int y :: .int x :: st) S := by
  intro p e s m args below meth c A H locs ls C hl hP hD hS
  exact lv_iadd C.1 C.2.1 hd  (k _ _ _ _ _ _ _ _ _ _ _ _ C hl hP hD hS)
theorem z_isub {x y : Int32} (hd : decode M.2.1 pc = .ok (.isub, 1))  (k : Lt G f wd nc ns M Q (pc + 1) lo (.int (x - y) :: st) S) : Lt G f wd nc ns M Q pc lo (.int y :: .int x :: st) S := by
  intro p e s m args below meth c A H locs ls C hl hP hD hS
  exact lv_isub C.1 C.2.1 hd  (k _ _ _ _ _ _ _ _ _ _ _ _ C hl hP hD hS)
theorem z_imul {x y : Int32} (hd : decode M.2.1 pc = .ok (.imul, 1))  (k : Lt G f wd nc ns M Q (pc + 1) lo (.int (x * y) :: st) S) : Lt G f wd nc ns M Q pc lo (.int y :: .int x :: st) S := by
  intro p e s m args below meth c A H locs ls C hl hP hD hS
  exact lv_imul C.1 C.2.1 hd  (k _ _ _ _ _ _ _ _ _ _ _ _ C hl hP hD hS)
theorem z_iand {x y : Int32} (hd : decode M.2.1 pc = .ok (.iand, 1))  (k : Lt G f wd nc ns M Q (pc + 1) lo (.int (x &&& y) :: st) S) : Lt G f wd nc ns M Q pc lo (.int y :: .int x :: st) S := by
  intro p e s m args below meth c A H locs ls C hl hP hD hS
  exact lv_iand C.1 C.2.1 hd  (k _ _ _ _ _ _ _ _ _ _ _ _ C hl hP hD hS)
theorem z_ior {x y : Int32} (hd : decode M.2.1 pc = .ok (.ior, 1))  (k : Lt G f wd nc ns M Q (pc + 1) lo (.int (x ||| y) :: st) S) : Lt G f wd nc ns M Q pc lo (.int y :: .int x :: st) S := by
  intro p e s m args below meth c A H locs ls C hl hP hD hS
  exact lv_ior C.1 C.2.1 hd  (k _ _ _ _ _ _ _ _ _ _ _ _ C hl hP hD hS)
theorem z_ixor {x y : Int32} (hd : decode M.2.1 pc = .ok (.ixor, 1))  (k : Lt G f wd nc ns M Q (pc + 1) lo (.int (x ^^^ y) :: st) S) : Lt G f wd nc ns M Q pc lo (.int y :: .int x :: st) S := by
  intro p e s m args below meth c A H locs ls C hl hP hD hS
  exact lv_ixor C.1 C.2.1 hd  (k _ _ _ _ _ _ _ _ _ _ _ _ C hl hP hD hS)
theorem z_ishl {x y : Int32} (hd : decode M.2.1 pc = .ok (.ishl, 1))  (k : Lt G f wd nc ns M Q (pc + 1) lo (.int (x <<< (y &&& 31)) :: st) S) : Lt G f wd nc ns M Q pc lo (.int y :: .int x :: st) S := by
  intro p e s m args below meth c A H locs ls C hl hP hD hS
  exact lv_ishl C.1 C.2.1 hd  (k _ _ _ _ _ _ _ _ _ _ _ _ C hl hP hD hS)
theorem z_ishr {x y : Int32} (hd : decode M.2.1 pc = .ok (.ishr, 1))  (k : Lt G f wd nc ns M Q (pc + 1) lo (.int (x >>> (y &&& 31)) :: st) S) : Lt G f wd nc ns M Q pc lo (.int y :: .int x :: st) S := by
  intro p e s m args below meth c A H locs ls C hl hP hD hS
  exact lv_ishr C.1 C.2.1 hd  (k _ _ _ _ _ _ _ _ _ _ _ _ C hl hP hD hS)
theorem z_irem {x y : Int32} (hd : decode M.2.1 pc = .ok (.irem, 1)) (hne : ¬ y = 0) (k : Lt G f wd nc ns M Q (pc + 1) lo (.int (x - x / y * y) :: st) S) : Lt G f wd nc ns M Q pc lo (.int y :: .int x :: st) S := by
  intro p e s m args below meth c A H locs ls C hl hP hD hS
  exact lv_irem C.1 C.2.1 hd hne (k _ _ _ _ _ _ _ _ _ _ _ _ C hl hP hD hS)
theorem z_dup {v : Value} (hd : decode M.2.1 pc = .ok (.dup, 1)) (hv : v.category = 1) (k : Lt G f wd nc ns M Q (pc + 1) lo (v :: v :: st) S) : Lt G f wd nc ns M Q pc lo (v :: st) S := by
  intro p e s m args below meth c A H locs ls C hl hP hD hS
  exact lv_dup C.1 C.2.1 hd hv (k _ _ _ _ _ _ _ _ _ _ _ _ C hl hP hD hS)
theorem z_pop {v : Value} (hd : decode M.2.1 pc = .ok (.pop, 1)) (hv : v.category = 1) (k : Lt G f wd nc ns M Q (pc + 1) lo (st) S) : Lt G f wd nc ns M Q pc lo (v :: st) S := by
  intro p e s m args below meth c A H locs ls C hl hP hD hS
  exact lv_pop C.1 C.2.1 hd hv (k _ _ _ _ _ _ _ _ _ _ _ _ C hl hP hD hS)
theorem z_dup2 {v w : Value} (hd : decode M.2.1 pc = .ok (.dup2, 1)) (hv : v.category = 1) (hw : w.category = 1) (k : Lt G f wd nc ns M Q (pc + 1) lo (v :: w :: v :: w :: st) S) : Lt G f wd nc ns M Q pc lo (v :: w :: st) S := by
  intro p e s m args below meth c A H locs ls C hl hP hD hS
  exact lv_dup2_11 C.1 C.2.1 hd hv hw (k _ _ _ _ _ _ _ _ _ _ _ _ C hl hP hD hS)
theorem z_if_eq {x : Int32} {off : Int} {tgt : Nat} (hd : decode M.2.1 pc = .ok (.ifCond .eq off, 3)) (ht : (pc : Int) + off = (tgt : Int)) (kt : x = 0 → Lt G f wd nc ns M Q tgt lo st S) (kf : ¬ (x = 0) → Lt G f wd nc ns M Q (pc + 3) lo st S) : Lt G f wd nc ns M Q pc lo (.int x :: st) S := by
  intro p e s m args below meth c A H locs ls C hl hP hD hS
  exact lv_if_eq C.1 C.2.1 hd ht (fun z => kt z _ _ _ _ _ _ _ _ _ _ _ _ C hl hP hD hS) (fun z => kf z _ _ _ _ _ _ _ _ _ _ _ _ C hl hP hD hS)
theorem z_icmp_eq {x y : Int32} {off : Int} {tgt : Nat} (hd : decode M.2.1 pc = .ok (.if_icmp .eq off, 3)) (ht : (pc : Int) + off = (tgt : Int)) (kt : x = y → Lt G f wd nc ns M Q tgt lo st S) (kf : ¬ (x = y) → Lt G f wd nc ns M Q (pc + 3) lo st S) : Lt G f wd nc ns M Q pc lo (.int y :: .int x :: st) S := by
  intro p e s m args below meth c A H locs ls C hl hP hD hS
  exact lv_icmp_eq C.1 C.2.1 hd ht (fun z => kt z _ _ _ _ _ _ _ _ _ _ _ _ C hl hP hD hS) (fun z => kf z _ _ _ _ _ _ _ _ _ _ _ _ C hl hP hD hS)
theorem z_if_ne {x : Int32} {off : Int} {tgt : Nat} (hd : decode M.2.1 pc = .ok (.ifCond .ne off, 3)) (ht : (pc : Int) + off = (tgt : Int)) (kt : x ≠ 0 → Lt G f wd nc ns M Q tgt lo st S) (kf : x = 0 → Lt G f wd nc ns M Q (pc + 3) lo st S) : Lt G f wd nc ns M Q pc lo (.int x :: st) S := by
  intro p e s m args below meth c A H locs ls C hl hP hD hS
  exact lv_if_ne C.1 C.2.1 hd ht (fun z => kt z _ _ _ _ _ _ _ _ _ _ _ _ C hl hP hD hS) (fun z => kf z _ _ _ _ _ _ _ _ _ _ _ _ C hl hP hD hS)
theorem z_icmp_ne {x y : Int32} {off : Int} {tgt : Nat} (hd : decode M.2.1 pc = .ok (.if_icmp .ne off, 3)) (ht : (pc : Int) + off = (tgt : Int)) (kt : x ≠ y → Lt G f wd nc ns M Q tgt lo st S) (kf : x = y → Lt G f wd nc ns M Q (pc + 3) lo st S) : Lt G f wd nc ns M Q pc lo (.int y :: .int x :: st) S := by
  intro p e s m args below meth c A H locs ls C hl hP hD hS
  exact lv_icmp_ne C.1 C.2.1 hd ht (fun z => kt z _ _ _ _ _ _ _ _ _ _ _ _ C hl hP hD hS) (fun z => kf z _ _ _ _ _ _ _ _ _ _ _ _ C hl hP hD hS)
theorem z_if_lt {x : Int32} {off : Int} {tgt : Nat} (hd : decode M.2.1 pc = .ok (.ifCond .lt off, 3)) (ht : (pc : Int) + off = (tgt : Int)) (kt : x < 0 → Lt G f wd nc ns M Q tgt lo st S) (kf : ¬ (x < 0) → Lt G f wd nc ns M Q (pc + 3) lo st S) : Lt G f wd nc ns M Q pc lo (.int x :: st) S := by
  intro p e s m args below meth c A H locs ls C hl hP hD hS
  exact lv_if_lt C.1 C.2.1 hd ht (fun z => kt z _ _ _ _ _ _ _ _ _ _ _ _ C hl hP hD hS) (fun z => kf z _ _ _ _ _ _ _ _ _ _ _ _ C hl hP hD hS)
theorem z_icmp_lt {x y : Int32} {off : Int} {tgt : Nat} (hd : decode M.2.1 pc = .ok (.if_icmp .lt off, 3)) (ht : (pc : Int) + off = (tgt : Int)) (kt : x < y → Lt G f wd nc ns M Q tgt lo st S) (kf : ¬ (x < y) → Lt G f wd nc ns M Q (pc + 3) lo st S) : Lt G f wd nc ns M Q pc lo (.int y :: .int x :: st) S := by
  intro p e s m args below meth c A H locs ls C hl hP hD hS
  exact lv_icmp_lt C.1 C.2.1 hd ht (fun z => kt z _ _ _ _ _ _ _ _ _ _ _ _ C hl hP hD hS) (fun z => kf z _ _ _ _ _ _ _ _ _ _ _ _ C hl hP hD hS)
theorem z_if_ge {x : Int32} {off : Int} {tgt : Nat} (hd : decode M.2.1 pc = .ok (.ifCond .ge off, 3)) (ht : (pc : Int) + off = (tgt : Int)) (kt : 0 ≤ x → Lt G f wd nc ns M Q tgt lo st S) (kf : ¬ (0 ≤ x) → Lt G f wd nc ns M Q (pc + 3) lo st S) : Lt G f wd nc ns M Q pc lo (.int x :: st) S := by
  intro p e s m args below meth c A H locs ls C hl hP hD hS
  exact lv_if_ge C.1 C.2.1 hd ht (fun z => kt z _ _ _ _ _ _ _ _ _ _ _ _ C hl hP hD hS) (fun z => kf z _ _ _ _ _ _ _ _ _ _ _ _ C hl hP hD hS)
theorem z_icmp_ge {x y : Int32} {off : Int} {tgt : Nat} (hd : decode M.2.1 pc = .ok (.if_icmp .ge off, 3)) (ht : (pc : Int) + off = (tgt : Int)) (kt : y ≤ x → Lt G f wd nc ns M Q tgt lo st S) (kf : ¬ (y ≤ x) → Lt G f wd nc ns M Q (pc + 3) lo st S) : Lt G f wd nc ns M Q pc lo (.int y :: .int x :: st) S := by
  intro p e s m args below meth c A H locs ls C hl hP hD hS
  exact lv_icmp_ge C.1 C.2.1 hd ht (fun z => kt z _ _ _ _ _ _ _ _ _ _ _ _ C hl hP hD hS) (fun z => kf z _ _ _ _ _ _ _ _ _ _ _ _ C hl hP hD hS)
theorem z_if_gt {x : Int32} {off : Int} {tgt : Nat} (hd : decode M.2.1 pc = .ok (.ifCond .gt off, 3)) (ht : (pc : Int) + off = (tgt : Int)) (kt : 0 < x → Lt G f wd nc ns M Q tgt lo st S) (kf : ¬ (0 < x) → Lt G f wd nc ns M Q (pc + 3) lo st S) : Lt G f wd nc ns M Q pc lo (.int x :: st) S := by
  intro p e s m args below meth c A H locs ls C hl hP hD hS
  exact lv_if_gt C.1 C.2.1 hd ht (fun z => kt z _ _ _ _ _ _ _ _ _ _ _ _ C hl hP hD hS) (fun z => kf z _ _ _ _ _ _ _ _ _ _ _ _ C hl hP hD hS)
theorem z_icmp_gt {x y : Int32} {off : Int} {tgt : Nat} (hd : decode M.2.1 pc = .ok (.if_icmp .gt off, 3)) (ht : (pc : Int) + off = (tgt : Int)) (kt : y < x → Lt G f wd nc ns M Q tgt lo st S) (kf : ¬ (y < x) → Lt G f wd nc ns M Q (pc + 3) lo st S) : Lt G f wd nc ns M Q pc lo (.int y :: .int x :: st) S := by
  intro p e s m args below meth c A H locs ls C hl hP hD hS
  exact lv_icmp_gt C.1 C.2.1 hd ht (fun z => kt z _ _ _ _ _ _ _ _ _ _ _ _ C hl hP hD hS) (fun z => kf z _ _ _ _ _ _ _ _ _ _ _ _ C hl hP hD hS)
theorem z_if_le {x : Int32} {off : Int} {tgt : Nat} (hd : decode M.2.1 pc = .ok (.ifCond .le off, 3)) (ht : (pc : Int) + off = (tgt : Int)) (kt : x ≤ 0 → Lt G f wd nc ns M Q tgt lo st S) (kf : ¬ (x ≤ 0) → Lt G f wd nc ns M Q (pc + 3) lo st S) : Lt G f wd nc ns M Q pc lo (.int x :: st) S := by
  intro p e s m args below meth c A H locs ls C hl hP hD hS
  exact lv_if_le C.1 C.2.1 hd ht (fun z => kt z _ _ _ _ _ _ _ _ _ _ _ _ C hl hP hD hS) (fun z => kf z _ _ _ _ _ _ _ _ _ _ _ _ C hl hP hD hS)
theorem z_icmp_le {x y : Int32} {off : Int} {tgt : Nat} (hd : decode M.2.1 pc = .ok (.if_icmp .le off, 3)) (ht : (pc : Int) + off = (tgt : Int)) (kt : x ≤ y → Lt G f wd nc ns M Q tgt lo st S) (kf : ¬ (x ≤ y) → Lt G f wd nc ns M Q (pc + 3) lo st S) : Lt G f wd nc ns M Q pc lo (.int y :: .int x :: st) S := by
  intro p e s m args below meth c A H locs ls C hl hP hD hS
  exact lv_icmp_le C.1 C.2.1 hd ht (fun z => kt z _ _ _ _ _ _ _ _ _ _ _ _ C hl hP hD hS) (fun z => kf z _ _ _ _ _ _ _ _ _ _ _ _ C hl hP hD hS)
theorem z_goto {off : Int} {tgt : Nat} (hd : decode M.2.1 pc = .ok (.goto off, 3)) (ht : (pc : Int) + off = (tgt : Int)) (k : Lt G f wd nc ns M Q tgt lo st S) : Lt G f wd nc ns M Q pc lo st S := by
  intro p e s m args below meth c A H locs ls C hl hP hD hS
  exact lv_goto C.1 C.2.1 hd ht (k _ _ _ _ _ _ _ _ _ _ _ _ C hl hP hD hS)
theorem z_ldcw {i : Nat} {v : Int32} (hk : KI M.1.cls i v) (hd : decode M.2.1 pc = .ok (.ldc_w i, 3)) (k : Lt G f wd nc ns M Q (pc + 3) lo (.int v :: st) S) : Lt G f wd nc ns M Q pc lo st S := by
  intro p e s m args below meth c A H locs ls C hl hP hD hS
  exact lv_ldcw C.1 C.2.1 C.2.2.2.2.1 (C.2.2.2.2.2.1 _ (List.mem_cons_of_mem _ hk)) hd (k _ _ _ _ _ _ _ _ _ _ _ _ C hl hP hD hS)
theorem z_aloadr_n {n : Fin 4} {x : Nat} (hd : decode M.2.1 pc = .ok (.aload_n n, 1)) (j : Nat) (hg : lo[j]? = some ((n : Nat), .ref x)) (k : Lt G f wd nc ns M Q (pc + 1) lo (.ref x :: st) S) : Lt G f wd nc ns M Q pc lo (st) S := by
  intro p e s m args below meth c A H locs ls C hl hP hD hS
  exact lv_aload_n C.1 C.2.1 hd rfl (lv_at hl j hg) (k _ _ _ _ _ _ _ _ _ _ _ _ C hl hP hD hS)
theorem z_aloadr {i : Nat} {x : Nat} (hd : decode M.2.1 pc = .ok (.aload i, 2)) (j : Nat) (hg : lo[j]? = some (i, .ref x)) (k : Lt G f wd nc ns M Q (pc + 2) lo (.ref x :: st) S) : Lt G f wd nc ns M Q pc lo (st) S := by
  intro p e s m args below meth c A H locs ls C hl hP hD hS
  exact lv_aload C.1 C.2.1 hd (lv_at hl j hg) (k _ _ _ _ _ _ _ _ _ _ _ _ C hl hP hD hS)
theorem z_astorer_n {n : Fin 4} {i : Nat} {x : Nat} {lo2 : List (Nat × Value)} (hd : decode M.2.1 pc = .ok (.astore_n n, 1)) (hi : (n : Nat) = i) (hn : i < M.2.2.1) (ps : List Nat) (hs : lv_pick ((i, .ref x) :: lo.filter (fun q => !(q.1 == i) && !(q.1 + 1 == i && q.2.category == 2))) ps = lo2) (k : Lt G f wd nc ns M Q (pc + 1) lo2 st S) : Lt G f wd nc ns M Q pc lo (.ref x :: st) S := by
  intro p e s m args below meth c A H locs ls C hl hP hD hS
  exact lv_astore_n C.1 C.2.1 hd hi hl hn rfl (fun ls' hl => k _ _ _ _ _ _ _ _ _ _ _ _ C (lv_sub hl ps hs) hP hD hS)
theorem z_astorer  {i : Nat} {x : Nat} {lo2 : List (Nat × Value)} (hd : decode M.2.1 pc = .ok (.astore i, 2)) (hn : i < M.2.2.1) (ps : List Nat) (hs : lv_pick ((i, .ref x) :: lo.filter (fun q => !(q.1 == i) && !(q.1 + 1 == i && q.2.category == 2))) ps = lo2) (k : Lt G f wd nc ns M Q (pc + 2) lo2 st S) : Lt G f wd nc ns M Q pc lo (.ref x :: st) S := by
  intro p e s m args below meth c A H locs ls C hl hP hD hS
  exact lv_astore C.1 C.2.1 hd hl hn rfl (fun ls' hl => k _ _ _ _ _ _ _ _ _ _ _ _ C (lv_sub hl ps hs) hP hD hS)
theorem z_idiv {x y : Int32} (hd : decode M.2.1 pc = .ok (.idiv, 1)) (hne : ¬ y = 0) (k : Lt G f wd nc ns M Q (pc + 1) lo (.int (x / y) :: st) S) : Lt G f wd nc ns M Q pc lo (.int y :: .int x :: st) S := by
  intro p e s m args below meth c A H locs ls C hl hP hD hS
  exact lv_idiv C.1 C.2.1 hd hne (k _ _ _ _ _ _ _ _ _ _ _ _ C hl hP hD hS)
theorem z_ldc {i : Nat} {v : Int32} (hk : KI M.1.cls i v) (hd : decode M.2.1 pc = .ok (.ldc i, 2)) (k : Lt G f wd nc ns M Q (pc + 2) lo (.int v :: st) S) : Lt G f wd nc ns M Q pc lo st S := by
  intro p e s m args below meth c A H locs ls C hl hP hD hS
  exact lv_ldc C.1 C.2.1 C.2.2.2.2.1 (C.2.2.2.2.2.1 _ (List.mem_cons_of_mem _ hk)) hd (k _ _ _ _ _ _ _ _ _ _ _ _ C hl hP hD hS)
theorem z_zret {v : Int32} {ty : FieldType} (hr : M.2.2.2 = some ty) (hn : narrow ty (.int v) = .int v) (hd : decode M.2.1 pc = .ok (.ireturn, 1)) (hq : Q (some v) S.1) : Lt G f wd nc ns M Q pc lo [.int v] S := by
  intro p e s m args below meth c A H locs ls C hl hP hD hS
  obtain ⟨hS, hc, hs⟩ := hS
  refine W.widen (k := nc) (n := ns) hc hs ?_
  refine W.zret (ty := ty) C.1 C.2.1 (C.2.2.2.1.trans hr) hn (fun t ht hW => ?_) hS.2.2 hd C.2.2.2.2.2.2.1
  unfold mPost
  rw [hr]
  exact ⟨⟨v, S.1, rfl, hq, by rw [ht]; exact zP hP, va_K.moved hW.alike C.2.2.2.2.2.2.2.1, zD hD⟩, hS.F ht⟩
theorem z_iald {q N j j0 : Nat} {f1 : Nat → Int32} {x : Int32} (hX : S.2.1[j0]? = some (q, N, f1)) (hx : x = nI j) (hj : j < N) (hN : N < 2 ^ 31) (hd : decode M.2.1 pc = .ok (.iaload, 1)) (k : Lt G f wd nc ns M Q (pc + 1) lo (.int (f1 j) :: st) S) : Lt G f wd nc ns M Q pc lo (.int x :: .ref q :: st) S := by
  intro p e s m args below meth c A H locs ls C hl hP hD hS
  have h0 : (zW G S)[j0]? = some (q, .inl (G.2.2.1 6, N, .inl f1)) := by
    have h1 : (xW G S.2.1)[j0]? = some (xE G (q, N, f1)) := by unfold xW; rw [List.getElem?_map, hX]; rfl
    unfold zW; rw [List.getElem?_append_left (List.getElem?_eq_some_iff.mp h1).1]; exact h1
  have e : x.toNatClampNeg = j := by rw [hx]; exact nI_clamp (by omega)
  refine va_iald (D := G.2.1) (tys := mTy G) C.1 C.2.1 C.2.2.2.2.2.2.2.1 hP j0 0 h0 rfl (in_of hx hj hN) hd ?_
  rw [e]
  exact k _ _ _ _ _ _ _ _ _ _ _ _ C hl hP hD hS
theorem z_iast {q N j j0 : Nat} {f1 : Nat → Int32} {x y : Int32} (hX : S.2.1[j0]? = some (q, N, f1)) (hx : x = nI j) (hj : j < N) (hN : N < 2 ^ 31) (hd : decode M.2.1 pc = .ok (.iastore, 1)) (k : Lt G f wd nc ns M Q (pc + 1) lo st (S.1, S.2.1.set j0 (q, N, upd f1 j y), S.2.2)) : Lt G f wd nc ns M Q pc lo (.int y :: .int x :: .ref q :: st) S := by
  intro p e s m args below meth c A H locs ls C hl hP hD hS
  have h1 : (xW G S.2.1)[j0]? = some (xE G (q, N, f1)) := by unfold xW; rw [List.getElem?_map, hX]; rfl
  have hlt := (List.getElem?_eq_some_iff.mp h1).1
  have h0 : (zW G S)[j0]? = some (q, .inl (G.2.2.1 6, N, .inl f1)) := by
    unfold zW; rw [List.getElem?_append_left hlt]; exact h1
  have e : x.toNatClampNeg = j := by rw [hx]; exact nI_clamp (by omega)
  obtain ⟨hS, hcs⟩ := hS
  refine va_iast (D := G.2.1) (tys := mTy G) C.1 C.2.1 C.2.2.2.2.2.2.2.1 hP hD hS j0 0 h0 rfl (in_of hx hj hN) hd (fun H1 locs1 hP hD hS => ?_)
  have e2 : (zW G S).set j0 (q, .inl (G.2.2.1 6, N, .inl (upd f1 x.toNatClampNeg y))) = zW G (S.1, S.2.1.set j0 (q, N, upd f1 j y), S.2.2) := by
    unfold zW xW
    rw [e, List.set_append_left _ _ (by unfold xW at hlt; exact hlt), List.map_set]
    rfl
  rw [e2] at hP hD
  exact k _ _ _ _ _ _ _ _ _ _ _ _ C hl hP hD ⟨hS, hcs⟩
theorem z_newa {N : Nat} {x : Int32} (hx : x = nI N) (hN1 : N < 10000) (har : Cond.arrayClass .int ∈ gtbl) (hc : S.2.2.1 + 1 ≤ nc) (hs : S.2.2.2 + N ≤ ns) (hd : decode M.2.1 pc = .ok (.newarray .int, 2)) (k : ∀ q, Lt G f wd nc ns M Q (pc + 2) lo (.ref q :: st) (S.1, S.2.1 ++ [(q, N, fun _ => 0)], S.2.2.1 + 1, S.2.2.2 + N)) : Lt G f wd nc ns M Q pc lo (.int x :: st) S := by
  intro p e s m args below meth c A H locs ls C hl hP hD hS
  obtain ⟨hS, hcs⟩ := hS
  have hK := C.2.2.2.2.2.2.2.1
  have hts := C.2.2.2.2.2.1
  have hK2 := (hK.2 0 _ (mTy_at (G := G) (t := 6) (by omega) (by omega))).2
  refine va_newaK (atype := .int) (h := H.size) (N := N) C.1 C.2.1 (hts _ (List.mem_cons_of_mem _ har)) rfl hd rfl (by rw [hx]; exact nI_pos (by omega)) (by rw [hx]; exact nI_clamp (by omega)) ?_ hc hs rfl fun H1 cA e1 z1 o1 hAr hNm => ?_
  · show N * 4 ≤ 536870912
    omega
  · have hcA : G.2.2.1 6 = cA := Option.some.inj (hK2.symm.trans hNm)
    have hP1 : va_P G.2.1 mcl (zW G S ++ [xE G (H.size, N, fun _ => 0)]) H1 := hP.grow rfl o1 (by
      rw [hcA]
      exact e1)
    have hD1 : va_D A (zW G S ++ [xE G (H.size, N, fun _ => 0)]) := hD.push hP rfl (C.2.2.2.2.2.2.2.2 _ hS.1)
    have e2 : zW G (S.1, S.2.1 ++ [(H.size, N, fun _ => 0)], S.2.2.1 + 1, S.2.2.2 + N) = (xW G S.2.1 ++ [xE G (H.size, N, fun _ => 0)]) ++ mW G S.1 := by
      unfold zW xW; rw [List.map_append]; rfl
    have hP2 := va_P.swap hP1
    have hD2 := va_D.swap hD1
    rw [← e2] at hP2 hD2
    exact k _ _ _ _ _ _ _ _ _ _ _ _ _ C hl hP2 hD2 ⟨hS.grow rfl z1 o1, hc, hs⟩
theorem z_callV {M' : mM} {As rest : List Value} {Qc : Option Int32 → mS → Prop} {ci a n i d : Nat} (hc : CV M' ci n) (hk : kd a = ci) (hl1 : ML M.1.cls i M') {ty : FieldType} (hr : M'.2.2.2 = some ty) (hst : st = As.reverse ++ rv G a :: rest) (hn : As.length = n) (hW : (rest.map fun v => v.category).sum ≤ 8) (hrm : d + 1 ≤ f ∧ 8 + (M'.2.2.1 + 11) + 30 * d ≤ wd) (hd : decode M.2.1 pc = .ok (.invokevirtual i, 3)) (hcall : Call G d M' (rv G a :: As) S.1 Qc) (k : ∀ r u, Qc (some r) u → Lt G f wd nc ns M Q (pc + 3) lo (.int r :: rest) (u, S.2)) : Lt G f wd nc ns M Q pc lo st S := by
  intro p e s m args below meth c A H locs ls C hl hP hD hS
  obtain ⟨hS, hcs⟩ := hS
  subst hst
  have hKK := C.2.2.2.2.2.2.2.1
  have hM := hcall H.size
  have hPm := zP hP
  have hDm := zD hD
  have hF := freeC (G := G) hDm hS C.2.2.2.2.2.2.2.2
  have e0 : mPost G M' Qc (va_A (mW G S.1) H.size) = va_Qi (fun r u => Qc (some r) u) (mBh G (va_A (mW G S.1) H.size)) (va_A (mW G S.1) H.size) := by unfold mPost; rw [hr]
  rw [e0] at hM
  have hbl := blindC (G := G) (av := rv G a :: As) (S' := S.1) (sz := H.size)
  refine va_calli (A1 := va_A (mW G S.1) H.size) (va_runV (R := mRl f wd nc ns) (As := As) (rest := rest) ⟨C.1, C.2.1, C.2.2.1, C.2.2.2.2.1, C.2.2.2.2.2.1⟩ hM (cwV n C.2.2.2.2.2.1 (gi_V (fun w hw => List.mem_cons_of_mem _ hw) hc hl1) rfl rfl rfl ⟨rfl, hc.1.2⟩ hrm) ⟨hbl, by rw [hc.2.1.2]; exact va_recv (D := G.2.1) hKK hPm (cls_at ci hc.2.1.1) (hasO hk hc.2.1.1), fun U hU hW => ⟨rfl, by rw [hU], by rw [hU]; exact hPm, va_K.moved hW.alike hKK, hDm.weaken (fun _ _ _ _ => trivial)⟩⟩ rfl hn hl.1 rfl (lv_room hW) hd hcs) hS (fun q _ h => hF q h) hF (fun r u t H1 locs1 ht hvm hw hB hz1 hk1 hS1 => ?_)
  obtain ⟨hP1, hK1, hD1⟩ := hB
  rw [ht] at hP1
  obtain ⟨hP2, hD2⟩ := z_join hP hD hk1 hF hP1 hD1 S.2.2.1 S.2.2.2
  exact k r u hw _ _ _ _ _ _ _ _ _ _ _ _ C hl hP2 hD2 ⟨hS1, hcs⟩
theorem z_callVF {M' : mM} {As rest : List Value} {x : Int32} {S2 : mS} {ci a n i d : Nat} (hc : CV M' ci n) (hk : kd a = ci) (hl1 : ML M.1.cls i M') {ty : FieldType} (hr : M'.2.2.2 = some ty) (hst : st = As.reverse ++ rv G a :: rest) (hn : As.length = n) (hW : (rest.map fun v => v.category).sum ≤ 8) (hrm : d + 1 ≤ f ∧ 8 + (M'.2.2.1 + 11) + 30 * d ≤ wd) (hd : decode M.2.1 pc = .ok (.invokevirtual i, 3)) (hcall : Call G d M' (rv G a :: As) S.1 (fun v u => v = some x ∧ u = S2)) (k : Lt G f wd nc ns M Q (pc + 3) lo (.int x :: rest) (S2, S.2)) : Lt G f wd nc ns M Q pc lo st S :=
  z_callV hc hk hl1 hr hst hn hW hrm hd hcall (fun r u h => by obtain ⟨h1, rfl⟩ := h; cases h1; exact k)
theorem z_callS {M' : mM} {As rest : List Value} {Qc : Option Int32 → mS → Prop} {n i d : Nat} (hc : CS M' n) (hl1 : ML M.1.cls i M') {ty : FieldType} (hr : M'.2.2.2 = some ty) (hst : st = As.reverse ++ rest) (hn : As.length = n) (hW : (rest.map fun v => v.category).sum ≤ 8) (hrm : d + 1 ≤ f ∧ 8 + (M'.2.2.1 + 11) + 30 * d ≤ wd) (hd : decode M.2.1 pc = .ok (.invokestatic i, 3)) (hcall : Call G d M' As S.1 Qc) (k : ∀ r u, Qc (some r) u → Lt G f wd nc ns M Q (pc + 3) lo (.int r :: rest) (u, S.2)) : Lt G f wd nc ns M Q pc lo st S := by
  intro p e s m args below meth c A H locs ls C hl hP hD hS
  obtain ⟨hS, hcs⟩ := hS
  subst hst
  have hKK := C.2.2.2.2.2.2.2.1
  have hM := hcall H.size
  have hPm := zP hP
  have hDm := zD hD
  have hF := freeC (G := G) hDm hS C.2.2.2.2.2.2.2.2
  have e0 : mPost G M' Qc (va_A (mW G S.1) H.size) = va_Qi (fun r u => Qc (some r) u) (mBh G (va_A (mW G S.1) H.size)) (va_A (mW G S.1) H.size) := by unfold mPost; rw [hr]
  rw [e0] at hM
  have hbl := blindC (G := G) (av := As) (S' := S.1) (sz := H.size)
  refine va_calli (A1 := va_A (mW G S.1) H.size) (va_runS (R := mRl f wd nc ns) (As := As) (rest := rest) ⟨C.1, C.2.1, C.2.2.1, C.2.2.2.2.1, C.2.2.2.2.2.1⟩ hM (va_cwS n C.2.2.2.2.2.1 (gi_S (fun w hw => List.mem_cons_of_mem _ hw) hc hl1) rfl rfl rfl hc.1.2 hrm) ⟨hbl, fun U hU hW => ⟨rfl, by rw [hU], by rw [hU]; exact hPm, va_K.moved hW.alike hKK, hDm.weaken (fun _ _ _ _ => trivial)⟩⟩ rfl hn hl.1 rfl (lv_room hW) hd hcs) hS (fun q _ h => hF q h) hF (fun r u t H1 locs1 ht hvm hw hB hz1 hk1 hS1 => ?_)
  obtain ⟨hP1, hK1, hD1⟩ := hB
  rw [ht] at hP1
  obtain ⟨hP2, hD2⟩ := z_join hP hD hk1 hF hP1 hD1 S.2.2.1 S.2.2.2
  exact k r u hw _ _ _ _ _ _ _ _ _ _ _ _ C hl hP2 hD2 ⟨hS1, hcs⟩
theorem z_callSF {M' : mM} {As rest : List Value} {x : Int32} {S2 : mS} {n i d : Nat} (hc : CS M' n) (hl1 : ML M.1.cls i M') {ty : FieldType} (hr : M'.2.2.2 = some ty) (hst : st = As.reverse ++ rest) (hn : As.length = n) (hW : (rest.map fun v => v.category).sum ≤ 8) (hrm : d + 1 ≤ f ∧ 8 + (M'.2.2.1 + 11) + 30 * d ≤ wd) (hd : decode M.2.1 pc = .ok (.invokestatic i, 3)) (hcall : Call G d M' As S.1 (fun v u => v = some x ∧ u = S2)) (k : Lt G f wd nc ns M Q (pc + 3) lo (.int x :: rest) (S2, S.2)) : Lt G f wd nc ns M Q pc lo st S :=
  z_callS hc hl1 hr hst hn hW hrm hd hcall (fun r u h => by obtain ⟨h1, rfl⟩ := h; cases h1; exact k)
theorem z_callL {M' : mM} {As rest : List Value} {Qc : Option Int32 → mS → Prop} {n i f2 w2 nc2 ns2 : Nat} (hc : CLm M' n) (hl1 : ML M.1.cls i M') {ty : FieldType} (hr : M'.2.2.2 = some ty) (hst : st = As.reverse ++ rest) (hn : As.length = n) (hW : (rest.map fun v => v.category).sum ≤ 8) (hrm : f2 + 1 ≤ f ∧ 8 + (M'.2.2.1 + 11) + w2 ≤ wd) (hkc : S.2.2.1 + nc2 ≤ nc ∧ S.2.2.2 + ns2 ≤ ns) (hd : decode M.2.1 pc = .ok (.invokestatic i, 3)) (hcall : CallL G f2 w2 nc2 ns2 M' As S.1 Qc) (k : ∀ r u, Qc (some r) u → Lt G f wd nc ns M Q (pc + 3) lo (.int r :: rest) (u, S.2.1, S.2.2.1 + nc2, S.2.2.2 + ns2)) : Lt G f wd nc ns M Q pc lo st S := by
  intro p e s m args below meth c A H locs ls C hl hP hD hS
  obtain ⟨hS, hcs⟩ := hS
  subst hst
  have hKK := C.2.2.2.2.2.2.2.1
  have hM := hcall H.size
  have hPm := zP hP
  have hDm := zD hD
  have hF := freeC (G := G) hDm hS C.2.2.2.2.2.2.2.2
  have e0 : mPost G M' Qc (va_A (mW G S.1) H.size) = va_Qi (fun r u => Qc (some r) u) (mBh G (va_A (mW G S.1) H.size)) (va_A (mW G S.1) H.size) := by unfold mPost; rw [hr]
  rw [e0] at hM
  have hbl := blindC (G := G) (av := As) (S' := S.1) (sz := H.size)
  refine va_calli (A1 := va_A (mW G S.1) H.size) (va_runS (R := mRl f wd nc ns) (As := As) (rest := rest) ⟨C.1, C.2.1, C.2.2.1, C.2.2.2.2.1, C.2.2.2.2.2.1⟩ hM (va_cwS n C.2.2.2.2.2.1 (gi_L (fun w hw => List.mem_cons_of_mem _ hw) hc hl1) rfl rfl rfl ⟨hc.2.1, hc.2.2.1, hc.2.2.2.1⟩ hrm) ⟨hbl, fun U hU hW => ⟨rfl, by rw [hU], by rw [hU]; exact hPm, va_K.moved hW.alike hKK, hDm.weaken (fun _ _ _ _ => trivial)⟩⟩ rfl hn hl.1 rfl (lv_room hW) hd hkc) hS (fun q _ h => hF q h) hF (fun r u t H1 locs1 ht hvm hw hB hz1 hk1 hS1 => ?_)
  obtain ⟨hP1, hK1, hD1⟩ := hB
  rw [ht] at hP1
  obtain ⟨hP2, hD2⟩ := z_join hP hD hk1 hF hP1 hD1 (S.2.2.1 + nc2) (S.2.2.2 + ns2)
  exact k r u hw _ _ _ _ _ _ _ _ _ _ _ _ C hl hP2 hD2 ⟨hS1, hkc⟩

end ROWS
theorem cl_L_cell : CLm M_L_cell 2 := ⟨⟨mem_g 340 (by decide +kernel) rfl, mem_g 11 (by decide +kernel) rfl⟩, by decide +kernel, by decide +kernel, by decide +kernel, mem_g 339 (by decide +kernel) rfl⟩
theorem cl_L_low : CLm M_L_low 2 := ⟨⟨mem_g 344 (by decide +kernel) rfl, mem_g 11 (by decide +kernel) rfl⟩, by decide +kernel, by decide +kernel, by decide +kernel, mem_g 343 (by decide +kernel) rfl⟩
theorem cl_L_size : CLm M_L_size 1 := ⟨⟨mem_g 356 (by decide +kernel) rfl, mem_g 11 (by decide +kernel) rfl⟩, by decide +kernel, by decide +kernel, by decide +kernel, mem_g 355 (by decide +kernel) rfl⟩
theorem cl_L_told : CLm M_L_told 1 := ⟨⟨mem_g 348 (by decide +kernel) rfl, mem_g 11 (by decide +kernel) rfl⟩, by decide +kernel, by decide +kernel, by decide +kernel, mem_g 347 (by decide +kernel) rfl⟩
theorem cl_L_comes : CLm M_L_comes 4 := ⟨⟨mem_g 362 (by decide +kernel) rfl, mem_g 11 (by decide +kernel) rfl⟩, by decide +kernel, by decide +kernel, by decide +kernel, mem_g 361 (by decide +kernel) rfl⟩
theorem cl_L_passes : CLm M_L_passes 1 := ⟨⟨mem_g 366 (by decide +kernel) rfl, mem_g 11 (by decide +kernel) rfl⟩, by decide +kernel, by decide +kernel, by decide +kernel, mem_g 365 (by decide +kernel) rfl⟩
theorem cl_L_act : CLm M_L_act 2 := ⟨⟨mem_g 359 (by decide +kernel) rfl, mem_g 11 (by decide +kernel) rfl⟩, by decide +kernel, by decide +kernel, by decide +kernel, mem_g 358 (by decide +kernel) rfl⟩
