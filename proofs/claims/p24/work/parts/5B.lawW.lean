/-! the law's entry: a layer over W, and its calls -/
def LW (p : Program) (e : Env) (s : State) (m : MethodId) (below : List Frame) (meth : Method) (c : Code) (G : mG) (b : Nat) (pc : Nat) (lo : List (Nat × Value)) (st : List Value) (Z : mZ) : Prop :=
  ∀ (H : Heap) (ls : Array Slot), lv_has ls 3 lo → va_P G.2.1 mcl (mW G Z.1) H → va_D (fun q => s.heap.size ≤ q) (mW G Z.1) → (va_S (fun q => s.heap.size ≤ q) s.heap H [] ∧ Z.2.2.1 ≤ 600000 ∧ Z.2.2.2 ≤ 7302249) →
    W p G.1 e room_1 s m #[Value.ref b] below meth c H [] Z.2.2.1 Z.2.2.2 (lw_Z below #[Value.ref b] s) (F0 m pc ls st)
/-- the law's cell: some number -/
def CellC (G : mG) (b L : Nat) (xs : Nat → Int32) (k : Int32) : Prop := ∀ sz : Nat, Met G.1 M_L_cell.1 (mWs M_L_cell) (mRm 0) (va_Pc [.ref b, .int k] (fun U => U.heap.size = sz ∧ b < sz ∧ va_X b L xs U U.heap)) (va_Qi (fun (_ : Int32) (_ : Unit) => True) (fun _ _ => True) (fun q => sz ≤ q)) 0 0 (fun q => sz ≤ q)
set_option maxHeartbeats 1000000 in
theorem c_cell {G : mG} {b L i : Nat} {xs : Nat → Int32} (hi : i < 1000) (hL : L ≤ 260) : CellC G b L xs (nI i) := by
  intro sz
  refine Met.ofW (cc := M_L_cell.2.1) (maxL := M_L_cell.2.2.1) (ret := M_L_cell.2.2.2) (by decide +kernel) rfl ?_
  intro p e s m args below meth c s₁ B hml hv
  obtain ⟨rfl, hsz, hb, hX⟩ := hv
  subst hsz
  have hx := B.exec
  have hbt := B.bytes
  have hr := B.returns
  have hown := findClass_of_methodNamed B.named
  have hlk := B.notSynchronized
  have hts : ∀ w ∈ mWs M_L_cell, w.before #[Value.ref b, Value.int (nI i)] s = true := atoms_spec (ws := mWs M_L_cell) B.pre
  have hl := lv_entry ([.ref b, .int (nI i)]) (n := 2) (Nat.le_of_ble_eq_true rfl)
  rw [lg_entry_eq]
  generalize (lg_sl ([.ref b, .int (nI i)]) ++ List.replicate (2 - (lg_sl ([.ref b, .int (nI i)])).length) Slot.unset).toArray = ls at hl ⊢
  have hl : lv_has ls 2 [(0, .ref b), (1, .int (nI i))] := hl
  have hS : va_S (fun q => s.heap.size ≤ q) s.heap s.heap [] := va_S.rf
  have hbA : ¬ (fun q => s.heap.size ≤ q) b := Nat.not_le.mpr hb
  have fin : ∀ (v : Int32), W p G.1 e (mRm 0) s m ([Value.ref b, Value.int (nI i)] : List Value).toArray below meth c s.heap [] 0 0 (MQ below (va_Qi (fun (_ : Int32) (_ : Unit) => True) (fun _ _ => True) (fun q => s.heap.size ≤ q)) ([Value.ref b, Value.int (nI i)] : List Value).toArray s 0 0 (fun q => s.heap.size ≤ q)) (F0 m 20 ls [.int v]) := by
    intro v
    exact W.zret (ty := .int) hx hbt hr rfl (fun t ht hW => ⟨⟨v, (), rfl, trivial, trivial⟩, hS.F ht⟩) hS.2.2 dL_cell_20 hlk
  refine lv_iload_n hx hbt dL_cell_0 rfl (lv_at hl 1 rfl) ?_
  refine lv_aload_n hx hbt dL_cell_1 rfl (lv_at hl 0 rfl) ?_
  refine va_slen hx hbt hX hb hbA hS dL_cell_2 ?_
  refine lv_icmp_ge (tgt := 12) hx hbt dL_cell_3 (by decide) (fun h3 => ?_) (fun h3 => ?_)
  · refine lv_ldc (own := RL) hx hbt hown (hts _ (List.mem_cons_of_mem _ k_L_7)) dL_cell_12 ?_
    refine lv_iload_n hx hbt dL_cell_14 rfl (lv_at hl 1 rfl) ?_
    refine lv_imul hx hbt dL_cell_15 ?_
    refine lv_sipush (v := 20011) hx hbt dL_cell_16 (by decide +kernel) ?_
    refine lv_iadd hx hbt dL_cell_19 ?_
    exact fin _
  · have hin : vp_in (nI i) L := by
      refine vp_in_nI ?_ (by omega)
      rcases Nat.lt_or_ge i L with z | z
      · exact z
      · exact absurd (nI_le z (by omega)) h3
    refine lv_aload_n hx hbt dL_cell_6 rfl (lv_at hl 0 rfl) ?_
    refine lv_iload_n hx hbt dL_cell_7 rfl (lv_at hl 1 rfl) ?_
    refine va_sld hx hbt hX hb hbA hS hin dL_cell_8 ?_
    refine lv_goto (tgt := 20) hx hbt dL_cell_9 (by decide) ?_
    exact fin _
theorem gm {w : Cond} (hw : w ∈ gtbl) : w ∈ lw_tbl := (List.mem_filter.mp hw).1

section LAW
variable {p : Program} {e : Env} {s : State} {m : MethodId} {below : List Frame} {meth : Method} {c : Code} {G : mG} {b L : Nat} {xs : Nat → Int32} {pc : Nat} {lo : List (Nat × Value)} {st : List Value} {S : mZ}
theorem l_iconst (C0 : lw_At p s m meth c b L xs) {n : Int} {v : Int32} (hd : decode cL_law pc = .ok (.iconst n, 1)) (hv : Int32.ofInt n = v) (k : LW p e s m below meth c G b (pc + 1) lo (.int v :: st) S) : LW p e s m below meth c G b pc lo (st) S := by
  intro H ls hl hP hD hS
  exact lv_iconst C0.1 C0.2.1 hd hv (k _ _ hl hP hD hS)
theorem l_bipush (C0 : lw_At p s m meth c b L xs) {n : Int} {v : Int32} (hd : decode cL_law pc = .ok (.bipush n, 2)) (hv : (Int8.ofInt n).toInt32 = v) (k : LW p e s m below meth c G b (pc + 2) lo (.int v :: st) S) : LW p e s m below meth c G b pc lo (st) S := by
  intro H ls hl hP hD hS
  exact lv_bipush C0.1 C0.2.1 hd hv (k _ _ hl hP hD hS)
theorem l_sipush (C0 : lw_At p s m meth c b L xs) {n : Int} {v : Int32} (hd : decode cL_law pc = .ok (.sipush n, 3)) (hv : (Int16.ofInt n).toInt32 = v) (k : LW p e s m below meth c G b (pc + 3) lo (.int v :: st) S) : LW p e s m below meth c G b pc lo (st) S := by
  intro H ls hl hP hD hS
  exact lv_sipush C0.1 C0.2.1 hd hv (k _ _ hl hP hD hS)
theorem l_iload_n (C0 : lw_At p s m meth c b L xs) {n : Fin 4} {x : Int32} (hd : decode cL_law pc = .ok (.iload_n n, 1)) (j : Nat) (hg : lo[j]? = some ((n : Nat), .int x)) (k : LW p e s m below meth c G b (pc + 1) lo (.int x :: st) S) : LW p e s m below meth c G b pc lo (st) S := by
  intro H ls hl hP hD hS
  exact lv_iload_n C0.1 C0.2.1 hd rfl (lv_at hl j hg) (k _ _ hl hP hD hS)
theorem l_iload (C0 : lw_At p s m meth c b L xs) {i : Nat} {x : Int32} (hd : decode cL_law pc = .ok (.iload i, 2)) (j : Nat) (hg : lo[j]? = some (i, .int x)) (k : LW p e s m below meth c G b (pc + 2) lo (.int x :: st) S) : LW p e s m below meth c G b pc lo (st) S := by
  intro H ls hl hP hD hS
  exact lv_iload C0.1 C0.2.1 hd (lv_at hl j hg) (k _ _ hl hP hD hS)
theorem l_aload_n (C0 : lw_At p s m meth c b L xs) {n : Fin 4} {x : Nat} (hd : decode cL_law pc = .ok (.aload_n n, 1)) (j : Nat) (hg : lo[j]? = some ((n : Nat), rv G x)) (k : LW p e s m below meth c G b (pc + 1) lo (rv G x :: st) S) : LW p e s m below meth c G b pc lo (st) S := by
  intro H ls hl hP hD hS
  exact lv_aload_n C0.1 C0.2.1 hd rfl (lv_at hl j hg) (k _ _ hl hP hD hS)
theorem l_aload (C0 : lw_At p s m meth c b L xs) {i : Nat} {x : Nat} (hd : decode cL_law pc = .ok (.aload i, 2)) (j : Nat) (hg : lo[j]? = some (i, rv G x)) (k : LW p e s m below meth c G b (pc + 2) lo (rv G x :: st) S) : LW p e s m below meth c G b pc lo (st) S := by
  intro H ls hl hP hD hS
  exact lv_aload C0.1 C0.2.1 hd (lv_at hl j hg) (k _ _ hl hP hD hS)
theorem l_istore_n (C0 : lw_At p s m meth c b L xs) {n : Fin 4} {i : Nat} {x : Int32} {lo2 : List (Nat × Value)} (hd : decode cL_law pc = .ok (.istore_n n, 1)) (hi : (n : Nat) = i) (hn : i < 3) (ps : List Nat) (hs : lv_pick ((i, .int x) :: lo.filter (fun q => !(q.1 == i) && !(q.1 + 1 == i && q.2.category == 2))) ps = lo2) (k : LW p e s m below meth c G b (pc + 1) lo2 st S) : LW p e s m below meth c G b pc lo (.int x :: st) S := by
  intro H ls hl hP hD hS
  exact lv_istore_n C0.1 C0.2.1 hd hi hl hn rfl (fun ls' hl => k _ _ (lv_sub hl ps hs) hP hD hS)
theorem l_istore (C0 : lw_At p s m meth c b L xs)  {i : Nat} {x : Int32} {lo2 : List (Nat × Value)} (hd : decode cL_law pc = .ok (.istore i, 2)) (hn : i < 3) (ps : List Nat) (hs : lv_pick ((i, .int x) :: lo.filter (fun q => !(q.1 == i) && !(q.1 + 1 == i && q.2.category == 2))) ps = lo2) (k : LW p e s m below meth c G b (pc + 2) lo2 st S) : LW p e s m below meth c G b pc lo (.int x :: st) S := by
  intro H ls hl hP hD hS
  exact lv_istore C0.1 C0.2.1 hd hl hn rfl (fun ls' hl => k _ _ (lv_sub hl ps hs) hP hD hS)
theorem l_astore_n (C0 : lw_At p s m meth c b L xs) {n : Fin 4} {i : Nat} {x : Nat} {lo2 : List (Nat × Value)} (hd : decode cL_law pc = .ok (.astore_n n, 1)) (hi : (n : Nat) = i) (hn : i < 3) (ps : List Nat) (hs : lv_pick ((i, rv G x) :: lo.filter (fun q => !(q.1 == i) && !(q.1 + 1 == i && q.2.category == 2))) ps = lo2) (k : LW p e s m below meth c G b (pc + 1) lo2 st S) : LW p e s m below meth c G b pc lo (rv G x :: st) S := by
  intro H ls hl hP hD hS
  exact lv_astore_n C0.1 C0.2.1 hd hi hl hn rfl (fun ls' hl => k _ _ (lv_sub hl ps hs) hP hD hS)
theorem l_astore (C0 : lw_At p s m meth c b L xs)  {i : Nat} {x : Nat} {lo2 : List (Nat × Value)} (hd : decode cL_law pc = .ok (.astore i, 2)) (hn : i < 3) (ps : List Nat) (hs : lv_pick ((i, rv G x) :: lo.filter (fun q => !(q.1 == i) && !(q.1 + 1 == i && q.2.category == 2))) ps = lo2) (k : LW p e s m below meth c G b (pc + 2) lo2 st S) : LW p e s m below meth c G b pc lo (rv G x :: st) S := by
  intro H ls hl hP hD hS
  exact lv_astore C0.1 C0.2.1 hd hl hn rfl (fun ls' hl => k _ _ (lv_sub hl ps hs) hP hD hS)
theorem l_iinc (C0 : lw_At p s m meth c b L xs) {i : Nat} {n : Int} {x w : Int32} {lo2 : List (Nat × Value)} (hd : decode cL_law pc = .ok (.iinc i n, 3)) (j : Nat) (hg : lo[j]? = some (i, .int x)) (hw : Int32.ofInt n = w) (hn : i < 3) (ps : List Nat) (hs : lv_pick ((i, .int (x + w)) :: lo.filter (fun q => !(q.1 == i) && !(q.1 + 1 == i && q.2.category == 2))) ps = lo2) (k : LW p e s m below meth c G b (pc + 3) lo2 st S) : LW p e s m below meth c G b pc lo st S := by
  intro H ls hl hP hD hS
  subst hw
  exact lv_iinc C0.1 C0.2.1 hd hl (k := j) hg rfl hn rfl (fun ls' hl => k _ _ (lv_sub hl ps hs) hP hD hS)
theorem l_sub (C0 : lw_At p s m meth c b L xs) {lo2 : List (Nat × Value)} (ps : List Nat) (hs : lv_pick lo ps = lo2) (k : LW p e s m below meth c G b pc lo2 st S) : LW p e s m below meth c G b pc lo st S := by
  intro H ls hl hP hD hS
  exact k _ _ (lv_sub hl ps hs) hP hD hS
theorem l_iadd (C0 : lw_At p s m meth c b L xs) {x y : Int32} (hd : decode cL_law pc = .ok (.iadd, 1))  (k : LW p e s m below meth c G b (pc + 1) lo (.int (x + y) :: st) S) : LW p e s m below meth c G b pc lo (.int y :: .int x :: st) S := by
  intro H ls hl hP hD hS
  exact lv_iadd C0.1 C0.2.1 hd  (k _ _ hl hP hD hS)
theorem l_isub (C0 : lw_At p s m meth c b L xs) {x y : Int32} (hd : decode cL_law pc = .ok (.isub, 1))  (k : LW p e s m below meth c G b (pc + 1) lo (.int (x - y) :: st) S) : LW p e s m below meth c G b pc lo (.int y :: .int x :: st) S := by
  intro H ls hl hP hD hS
  exact lv_isub C0.1 C0.2.1 hd  (k _ _ hl hP hD hS)
theorem l_imul (C0 : lw_At p s m meth c b L xs) {x y : Int32} (hd : decode cL_law pc = .ok (.imul, 1))  (k : LW p e s m below meth c G b (pc + 1) lo (.int (x * y) :: st) S) : LW p e s m below meth c G b pc lo (.int y :: .int x :: st) S := by
  intro H ls hl hP hD hS
  exact lv_imul C0.1 C0.2.1 hd  (k _ _ hl hP hD hS)
theorem l_iand (C0 : lw_At p s m meth c b L xs) {x y : Int32} (hd : decode cL_law pc = .ok (.iand, 1))  (k : LW p e s m below meth c G b (pc + 1) lo (.int (x &&& y) :: st) S) : LW p e s m below meth c G b pc lo (.int y :: .int x :: st) S := by
  intro H ls hl hP hD hS
  exact lv_iand C0.1 C0.2.1 hd  (k _ _ hl hP hD hS)
theorem l_ior (C0 : lw_At p s m meth c b L xs) {x y : Int32} (hd : decode cL_law pc = .ok (.ior, 1))  (k : LW p e s m below meth c G b (pc + 1) lo (.int (x ||| y) :: st) S) : LW p e s m below meth c G b pc lo (.int y :: .int x :: st) S := by
  intro H ls hl hP hD hS
  exact lv_ior C0.1 C0.2.1 hd  (k _ _ hl hP hD hS)
theorem l_ixor (C0 : lw_At p s m meth c b L xs) {x y : Int32} (hd : decode cL_law pc = .ok (.ixor, 1))  (k : LW p e s m below meth c G b (pc + 1) lo (.int (x ^^^ y) :: st) S) : LW p e s m below meth c G b pc lo (.int y :: .int x :: st) S := by
  intro H ls hl hP hD hS
  exact lv_ixor C0.1 C0.2.1 hd  (k _ _ hl hP hD hS)
theorem l_ishl (C0 : lw_At p s m meth c b L xs) {x y : Int32} (hd : decode cL_law pc = .ok (.ishl, 1))  (k : LW p e s m below meth c G b (pc + 1) lo (.int (x <<< (y &&& 31)) :: st) S) : LW p e s m below meth c G b pc lo (.int y :: .int x :: st) S := by
  intro H ls hl hP hD hS
  exact lv_ishl C0.1 C0.2.1 hd  (k _ _ hl hP hD hS)
theorem l_ishr (C0 : lw_At p s m meth c b L xs) {x y : Int32} (hd : decode cL_law pc = .ok (.ishr, 1))  (k : LW p e s m below meth c G b (pc + 1) lo (.int (x >>> (y &&& 31)) :: st) S) : LW p e s m below meth c G b pc lo (.int y :: .int x :: st) S := by
  intro H ls hl hP hD hS
  exact lv_ishr C0.1 C0.2.1 hd  (k _ _ hl hP hD hS)
theorem l_irem (C0 : lw_At p s m meth c b L xs) {x y : Int32} (hd : decode cL_law pc = .ok (.irem, 1)) (hne : ¬ y = 0) (k : LW p e s m below meth c G b (pc + 1) lo (.int (x - x / y * y) :: st) S) : LW p e s m below meth c G b pc lo (.int y :: .int x :: st) S := by
  intro H ls hl hP hD hS
  exact lv_irem C0.1 C0.2.1 hd hne (k _ _ hl hP hD hS)
theorem l_dup (C0 : lw_At p s m meth c b L xs) {v : Value} (hd : decode cL_law pc = .ok (.dup, 1)) (hv : v.category = 1) (k : LW p e s m below meth c G b (pc + 1) lo (v :: v :: st) S) : LW p e s m below meth c G b pc lo (v :: st) S := by
  intro H ls hl hP hD hS
  exact lv_dup C0.1 C0.2.1 hd hv (k _ _ hl hP hD hS)
theorem l_pop (C0 : lw_At p s m meth c b L xs) {v : Value} (hd : decode cL_law pc = .ok (.pop, 1)) (hv : v.category = 1) (k : LW p e s m below meth c G b (pc + 1) lo (st) S) : LW p e s m below meth c G b pc lo (v :: st) S := by
  intro H ls hl hP hD hS
  exact lv_pop C0.1 C0.2.1 hd hv (k _ _ hl hP hD hS)
theorem l_dup2 (C0 : lw_At p s m meth c b L xs) {v w : Value} (hd : decode cL_law pc = .ok (.dup2, 1)) (hv : v.category = 1) (hw : w.category = 1) (k : LW p e s m below meth c G b (pc + 1) lo (v :: w :: v :: w :: st) S) : LW p e s m below meth c G b pc lo (v :: w :: st) S := by
  intro H ls hl hP hD hS
  exact lv_dup2_11 C0.1 C0.2.1 hd hv hw (k _ _ hl hP hD hS)
theorem l_if_eq (C0 : lw_At p s m meth c b L xs) {x : Int32} {off : Int} {tgt : Nat} (hd : decode cL_law pc = .ok (.ifCond .eq off, 3)) (ht : (pc : Int) + off = (tgt : Int)) (kt : x = 0 → LW p e s m below meth c G b tgt lo st S) (kf : ¬ (x = 0) → LW p e s m below meth c G b (pc + 3) lo st S) : LW p e s m below meth c G b pc lo (.int x :: st) S := by
  intro H ls hl hP hD hS
  exact lv_if_eq C0.1 C0.2.1 hd ht (fun z => kt z _ _ hl hP hD hS) (fun z => kf z _ _ hl hP hD hS)
theorem l_icmp_eq (C0 : lw_At p s m meth c b L xs) {x y : Int32} {off : Int} {tgt : Nat} (hd : decode cL_law pc = .ok (.if_icmp .eq off, 3)) (ht : (pc : Int) + off = (tgt : Int)) (kt : x = y → LW p e s m below meth c G b tgt lo st S) (kf : ¬ (x = y) → LW p e s m below meth c G b (pc + 3) lo st S) : LW p e s m below meth c G b pc lo (.int y :: .int x :: st) S := by
  intro H ls hl hP hD hS
  exact lv_icmp_eq C0.1 C0.2.1 hd ht (fun z => kt z _ _ hl hP hD hS) (fun z => kf z _ _ hl hP hD hS)
theorem l_if_ne (C0 : lw_At p s m meth c b L xs) {x : Int32} {off : Int} {tgt : Nat} (hd : decode cL_law pc = .ok (.ifCond .ne off, 3)) (ht : (pc : Int) + off = (tgt : Int)) (kt : x ≠ 0 → LW p e s m below meth c G b tgt lo st S) (kf : x = 0 → LW p e s m below meth c G b (pc + 3) lo st S) : LW p e s m below meth c G b pc lo (.int x :: st) S := by
  intro H ls hl hP hD hS
  exact lv_if_ne C0.1 C0.2.1 hd ht (fun z => kt z _ _ hl hP hD hS) (fun z => kf z _ _ hl hP hD hS)
theorem l_icmp_ne (C0 : lw_At p s m meth c b L xs) {x y : Int32} {off : Int} {tgt : Nat} (hd : decode cL_law pc = .ok (.if_icmp .ne off, 3)) (ht : (pc : Int) + off = (tgt : Int)) (kt : x ≠ y → LW p e s m below meth c G b tgt lo st S) (kf : x = y → LW p e s m below meth c G b (pc + 3) lo st S) : LW p e s m below meth c G b pc lo (.int y :: .int x :: st) S := by
  intro H ls hl hP hD hS
  exact lv_icmp_ne C0.1 C0.2.1 hd ht (fun z => kt z _ _ hl hP hD hS) (fun z => kf z _ _ hl hP hD hS)
theorem l_if_lt (C0 : lw_At p s m meth c b L xs) {x : Int32} {off : Int} {tgt : Nat} (hd : decode cL_law pc = .ok (.ifCond .lt off, 3)) (ht : (pc : Int) + off = (tgt : Int)) (kt : x < 0 → LW p e s m below meth c G b tgt lo st S) (kf : ¬ (x < 0) → LW p e s m below meth c G b (pc + 3) lo st S) : LW p e s m below meth c G b pc lo (.int x :: st) S := by
  intro H ls hl hP hD hS
  exact lv_if_lt C0.1 C0.2.1 hd ht (fun z => kt z _ _ hl hP hD hS) (fun z => kf z _ _ hl hP hD hS)
theorem l_icmp_lt (C0 : lw_At p s m meth c b L xs) {x y : Int32} {off : Int} {tgt : Nat} (hd : decode cL_law pc = .ok (.if_icmp .lt off, 3)) (ht : (pc : Int) + off = (tgt : Int)) (kt : x < y → LW p e s m below meth c G b tgt lo st S) (kf : ¬ (x < y) → LW p e s m below meth c G b (pc + 3) lo st S) : LW p e s m below meth c G b pc lo (.int y :: .int x :: st) S := by
  intro H ls hl hP hD hS
  exact lv_icmp_lt C0.1 C0.2.1 hd ht (fun z => kt z _ _ hl hP hD hS) (fun z => kf z _ _ hl hP hD hS)
theorem l_if_ge (C0 : lw_At p s m meth c b L xs) {x : Int32} {off : Int} {tgt : Nat} (hd : decode cL_law pc = .ok (.ifCond .ge off, 3)) (ht : (pc : Int) + off = (tgt : Int)) (kt : 0 ≤ x → LW p e s m below meth c G b tgt lo st S) (kf : ¬ (0 ≤ x) → LW p e s m below meth c G b (pc + 3) lo st S) : LW p e s m below meth c G b pc lo (.int x :: st) S := by
  intro H ls hl hP hD hS
  exact lv_if_ge C0.1 C0.2.1 hd ht (fun z => kt z _ _ hl hP hD hS) (fun z => kf z _ _ hl hP hD hS)
theorem l_icmp_ge (C0 : lw_At p s m meth c b L xs) {x y : Int32} {off : Int} {tgt : Nat} (hd : decode cL_law pc = .ok (.if_icmp .ge off, 3)) (ht : (pc : Int) + off = (tgt : Int)) (kt : y ≤ x → LW p e s m below meth c G b tgt lo st S) (kf : ¬ (y ≤ x) → LW p e s m below meth c G b (pc + 3) lo st S) : LW p e s m below meth c G b pc lo (.int y :: .int x :: st) S := by
  intro H ls hl hP hD hS
  exact lv_icmp_ge C0.1 C0.2.1 hd ht (fun z => kt z _ _ hl hP hD hS) (fun z => kf z _ _ hl hP hD hS)
theorem l_if_gt (C0 : lw_At p s m meth c b L xs) {x : Int32} {off : Int} {tgt : Nat} (hd : decode cL_law pc = .ok (.ifCond .gt off, 3)) (ht : (pc : Int) + off = (tgt : Int)) (kt : 0 < x → LW p e s m below meth c G b tgt lo st S) (kf : ¬ (0 < x) → LW p e s m below meth c G b (pc + 3) lo st S) : LW p e s m below meth c G b pc lo (.int x :: st) S := by
  intro H ls hl hP hD hS
  exact lv_if_gt C0.1 C0.2.1 hd ht (fun z => kt z _ _ hl hP hD hS) (fun z => kf z _ _ hl hP hD hS)
theorem l_icmp_gt (C0 : lw_At p s m meth c b L xs) {x y : Int32} {off : Int} {tgt : Nat} (hd : decode cL_law pc = .ok (.if_icmp .gt off, 3)) (ht : (pc : Int) + off = (tgt : Int)) (kt : y < x → LW p e s m below meth c G b tgt lo st S) (kf : ¬ (y < x) → LW p e s m below meth c G b (pc + 3) lo st S) : LW p e s m below meth c G b pc lo (.int y :: .int x :: st) S := by
  intro H ls hl hP hD hS
  exact lv_icmp_gt C0.1 C0.2.1 hd ht (fun z => kt z _ _ hl hP hD hS) (fun z => kf z _ _ hl hP hD hS)
theorem l_if_le (C0 : lw_At p s m meth c b L xs) {x : Int32} {off : Int} {tgt : Nat} (hd : decode cL_law pc = .ok (.ifCond .le off, 3)) (ht : (pc : Int) + off = (tgt : Int)) (kt : x ≤ 0 → LW p e s m below meth c G b tgt lo st S) (kf : ¬ (x ≤ 0) → LW p e s m below meth c G b (pc + 3) lo st S) : LW p e s m below meth c G b pc lo (.int x :: st) S := by
  intro H ls hl hP hD hS
  exact lv_if_le C0.1 C0.2.1 hd ht (fun z => kt z _ _ hl hP hD hS) (fun z => kf z _ _ hl hP hD hS)
theorem l_icmp_le (C0 : lw_At p s m meth c b L xs) {x y : Int32} {off : Int} {tgt : Nat} (hd : decode cL_law pc = .ok (.if_icmp .le off, 3)) (ht : (pc : Int) + off = (tgt : Int)) (kt : x ≤ y → LW p e s m below meth c G b tgt lo st S) (kf : ¬ (x ≤ y) → LW p e s m below meth c G b (pc + 3) lo st S) : LW p e s m below meth c G b pc lo (.int y :: .int x :: st) S := by
  intro H ls hl hP hD hS
  exact lv_icmp_le C0.1 C0.2.1 hd ht (fun z => kt z _ _ hl hP hD hS) (fun z => kf z _ _ hl hP hD hS)
theorem l_goto (C0 : lw_At p s m meth c b L xs) {off : Int} {tgt : Nat} (hd : decode cL_law pc = .ok (.goto off, 3)) (ht : (pc : Int) + off = (tgt : Int)) (k : LW p e s m below meth c G b tgt lo st S) : LW p e s m below meth c G b pc lo st S := by
  intro H ls hl hP hD hS
  exact lv_goto C0.1 C0.2.1 hd ht (k _ _ hl hP hD hS)
theorem l_ldcw (C0 : lw_At p s m meth c b L xs) {i : Nat} {v : Int32} (hk : KI RL i v) (hd : decode cL_law pc = .ok (.ldc_w i, 3)) (k : LW p e s m below meth c G b (pc + 3) lo (.int v :: st) S) : LW p e s m below meth c G b pc lo st S := by
  intro H ls hl hP hD hS
  exact lv_ldcw C0.1 C0.2.1 C0.2.2.2.2.1 (C0.2.2.2.2.2.1 _ (List.mem_filter.mp hk).1) hd (k _ _ hl hP hD hS)
theorem l_aloadr_n (C0 : lw_At p s m meth c b L xs) {n : Fin 4} {x : Nat} (hd : decode cL_law pc = .ok (.aload_n n, 1)) (j : Nat) (hg : lo[j]? = some ((n : Nat), .ref x)) (k : LW p e s m below meth c G b (pc + 1) lo (.ref x :: st) S) : LW p e s m below meth c G b pc lo (st) S := by
  intro H ls hl hP hD hS
  exact lv_aload_n C0.1 C0.2.1 hd rfl (lv_at hl j hg) (k _ _ hl hP hD hS)
theorem l_aloadr (C0 : lw_At p s m meth c b L xs) {i : Nat} {x : Nat} (hd : decode cL_law pc = .ok (.aload i, 2)) (j : Nat) (hg : lo[j]? = some (i, .ref x)) (k : LW p e s m below meth c G b (pc + 2) lo (.ref x :: st) S) : LW p e s m below meth c G b pc lo (st) S := by
  intro H ls hl hP hD hS
  exact lv_aload C0.1 C0.2.1 hd (lv_at hl j hg) (k _ _ hl hP hD hS)
theorem l_astorer_n (C0 : lw_At p s m meth c b L xs) {n : Fin 4} {i : Nat} {x : Nat} {lo2 : List (Nat × Value)} (hd : decode cL_law pc = .ok (.astore_n n, 1)) (hi : (n : Nat) = i) (hn : i < 3) (ps : List Nat) (hs : lv_pick ((i, .ref x) :: lo.filter (fun q => !(q.1 == i) && !(q.1 + 1 == i && q.2.category == 2))) ps = lo2) (k : LW p e s m below meth c G b (pc + 1) lo2 st S) : LW p e s m below meth c G b pc lo (.ref x :: st) S := by
  intro H ls hl hP hD hS
  exact lv_astore_n C0.1 C0.2.1 hd hi hl hn rfl (fun ls' hl => k _ _ (lv_sub hl ps hs) hP hD hS)
theorem l_astorer (C0 : lw_At p s m meth c b L xs)  {i : Nat} {x : Nat} {lo2 : List (Nat × Value)} (hd : decode cL_law pc = .ok (.astore i, 2)) (hn : i < 3) (ps : List Nat) (hs : lv_pick ((i, .ref x) :: lo.filter (fun q => !(q.1 == i) && !(q.1 + 1 == i && q.2.category == 2))) ps = lo2) (k : LW p e s m below meth c G b (pc + 2) lo2 st S) : LW p e s m below meth c G b pc lo (.ref x :: st) S := by
  intro H ls hl hP hD hS
  exact lv_astore C0.1 C0.2.1 hd hl hn rfl (fun ls' hl => k _ _ (lv_sub hl ps hs) hP hD hS)
theorem l_idiv (C0 : lw_At p s m meth c b L xs) {x y : Int32} (hd : decode cL_law pc = .ok (.idiv, 1)) (hne : ¬ y = 0) (k : LW p e s m below meth c G b (pc + 1) lo (.int (x / y) :: st) S) : LW p e s m below meth c G b pc lo (.int y :: .int x :: st) S := by
  intro H ls hl hP hD hS
  exact lv_idiv C0.1 C0.2.1 hd hne (k _ _ hl hP hD hS)
theorem l_ldc (C0 : lw_At p s m meth c b L xs) {i : Nat} {v : Int32} (hk : KI RL i v) (hd : decode cL_law pc = .ok (.ldc i, 2)) (k : LW p e s m below meth c G b (pc + 2) lo (.int v :: st) S) : LW p e s m below meth c G b pc lo st S := by
  intro H ls hl hP hD hS
  exact lv_ldc C0.1 C0.2.1 C0.2.2.2.2.1 (C0.2.2.2.2.2.1 _ (List.mem_filter.mp hk).1) hd (k _ _ hl hP hD hS)
theorem l_ret (C0 : lw_At p s m meth c b L xs) (hd : decode cL_law pc = .ok (.ireturn, 1)) : LW p e s m below meth c G b pc lo [.int 1] S := by
  intro H ls hl hP hD hS
  refine W.widen (k := 600000) (n := 7302249) hS.2.1 hS.2.2 ?_
  exact lw_ret C0.1 C0.2.1 C0.2.2.1 C0.2.2.2.2.2.2.2.2.1 hd
theorem l_callV (C0 : lw_At p s m meth c b L xs) (hK : va_K G.2.1 mcl (mTy G) s) {M' : mM} {As rest : List Value} {Qc : Option Int32 → mS → Prop} {ci a n i d : Nat} (hc : CV M' ci n) (hk : kd a = ci) (hl1 : ML RL i M') {ty : FieldType} (hr : M'.2.2.2 = some ty) (hst : st = As.reverse ++ rv G a :: rest) (hn : As.length = n) (hW : (rest.map fun v => v.category).sum ≤ 8) (hrm : d + 1 ≤ 10 ∧ 8 + (M'.2.2.1 + 11) + 30 * d ≤ 402) (hd : decode cL_law pc = .ok (.invokevirtual i, 3)) (hcall : Call G d M' (rv G a :: As) S.1 Qc) (k : ∀ r u, Qc (some r) u → LW p e s m below meth c G b (pc + 3) lo (.int r :: rest) (u, S.2)) : LW p e s m below meth c G b pc lo st S := by
  intro H ls hl hP hD hS
  obtain ⟨hS, hcs⟩ := hS
  subst hst
  have hM := hcall H.size
  have hF := freeC (G := G) hD hS (fun _ h => h)
  have e0 : mPost G M' Qc (va_A (mW G S.1) H.size) = va_Qi (fun r u => Qc (some r) u) (mBh G (va_A (mW G S.1) H.size)) (va_A (mW G S.1) H.size) := by unfold mPost; rw [hr]
  rw [e0] at hM
  have hbl := blindC (G := G) (av := rv G a :: As) (S' := S.1) (sz := H.size)
  refine va_calli (A1 := va_A (mW G S.1) H.size) (va_runV (R := room_1) (As := As) (rest := rest) (own := R_law) (Ts := lw_tbl) ⟨C0.1, C0.2.1, C0.2.2.2.1, C0.2.2.2.2.1, C0.2.2.2.2.2.1⟩ hM (cwV n C0.2.2.2.2.2.1 (gi_V (fun w hw => gm hw) hc hl1) rfl rfl rfl ⟨rfl, hc.1.2⟩ hrm) ⟨hbl, by rw [hc.2.1.2]; exact va_recv (D := G.2.1) hK hP (cls_at ci hc.2.1.1) (hasO hk hc.2.1.1), fun U hU hW => ⟨rfl, by rw [hU], by rw [hU]; exact hP, va_K.moved hW.alike hK, hD.weaken (fun _ _ _ _ => trivial)⟩⟩ rfl hn hl.1 rfl (lv_room hW) hd hcs) hS (fun q _ h => hF q h) hF (fun r u t H1 locs1 ht hvm hw hB hz1 hk1 hS1 => ?_)
  obtain ⟨hP1, hK1, hD1⟩ := hB
  rw [ht] at hP1
  refine va_forget (fun q hq => hS1.2.2 q hq) ?_
  exact k r u hw _ _ hl hP1 (apartC hD hD1) ⟨⟨hS1.1, hS1.2.1, fun _ h => absurd h List.not_mem_nil⟩, hcs⟩
theorem l_callVF (C0 : lw_At p s m meth c b L xs) (hK : va_K G.2.1 mcl (mTy G) s) {M' : mM} {As rest : List Value} {x : Int32} {S2 : mS} {ci a n i d : Nat} (hc : CV M' ci n) (hk : kd a = ci) (hl1 : ML RL i M') {ty : FieldType} (hr : M'.2.2.2 = some ty) (hst : st = As.reverse ++ rv G a :: rest) (hn : As.length = n) (hW : (rest.map fun v => v.category).sum ≤ 8) (hrm : d + 1 ≤ 10 ∧ 8 + (M'.2.2.1 + 11) + 30 * d ≤ 402) (hd : decode cL_law pc = .ok (.invokevirtual i, 3)) (hcall : Call G d M' (rv G a :: As) S.1 (fun v u => v = some x ∧ u = S2)) (k : LW p e s m below meth c G b (pc + 3) lo (.int x :: rest) (S2, S.2)) : LW p e s m below meth c G b pc lo st S :=
  l_callV C0 hK hc hk hl1 hr hst hn hW hrm hd hcall (fun r u h => by obtain ⟨h1, rfl⟩ := h; cases h1; exact k)
theorem l_callS (C0 : lw_At p s m meth c b L xs) (hK : va_K G.2.1 mcl (mTy G) s) {M' : mM} {As rest : List Value} {Qc : Option Int32 → mS → Prop} {n i d : Nat} (hc : CS M' n) (hl1 : ML RL i M') {ty : FieldType} (hr : M'.2.2.2 = some ty) (hst : st = As.reverse ++ rest) (hn : As.length = n) (hW : (rest.map fun v => v.category).sum ≤ 8) (hrm : d + 1 ≤ 10 ∧ 8 + (M'.2.2.1 + 11) + 30 * d ≤ 402) (hd : decode cL_law pc = .ok (.invokestatic i, 3)) (hcall : Call G d M' As S.1 Qc) (k : ∀ r u, Qc (some r) u → LW p e s m below meth c G b (pc + 3) lo (.int r :: rest) (u, S.2)) : LW p e s m below meth c G b pc lo st S := by
  intro H ls hl hP hD hS
  obtain ⟨hS, hcs⟩ := hS
  subst hst
  have hM := hcall H.size
  have hF := freeC (G := G) hD hS (fun _ h => h)
  have e0 : mPost G M' Qc (va_A (mW G S.1) H.size) = va_Qi (fun r u => Qc (some r) u) (mBh G (va_A (mW G S.1) H.size)) (va_A (mW G S.1) H.size) := by unfold mPost; rw [hr]
  rw [e0] at hM
  have hbl := blindC (G := G) (av := As) (S' := S.1) (sz := H.size)
  refine va_calli (A1 := va_A (mW G S.1) H.size) (va_runS (R := room_1) (As := As) (rest := rest) (own := R_law) (Ts := lw_tbl) ⟨C0.1, C0.2.1, C0.2.2.2.1, C0.2.2.2.2.1, C0.2.2.2.2.2.1⟩ hM (va_cwS n C0.2.2.2.2.2.1 (gi_S (fun w hw => gm hw) hc hl1) rfl rfl rfl hc.1.2 hrm) ⟨hbl, fun U hU hW => ⟨rfl, by rw [hU], by rw [hU]; exact hP, va_K.moved hW.alike hK, hD.weaken (fun _ _ _ _ => trivial)⟩⟩ rfl hn hl.1 rfl (lv_room hW) hd hcs) hS (fun q _ h => hF q h) hF (fun r u t H1 locs1 ht hvm hw hB hz1 hk1 hS1 => ?_)
  obtain ⟨hP1, hK1, hD1⟩ := hB
  rw [ht] at hP1
  refine va_forget (fun q hq => hS1.2.2 q hq) ?_
  exact k r u hw _ _ hl hP1 (apartC hD hD1) ⟨⟨hS1.1, hS1.2.1, fun _ h => absurd h List.not_mem_nil⟩, hcs⟩
theorem l_callSF (C0 : lw_At p s m meth c b L xs) (hK : va_K G.2.1 mcl (mTy G) s) {M' : mM} {As rest : List Value} {x : Int32} {S2 : mS} {n i d : Nat} (hc : CS M' n) (hl1 : ML RL i M') {ty : FieldType} (hr : M'.2.2.2 = some ty) (hst : st = As.reverse ++ rest) (hn : As.length = n) (hW : (rest.map fun v => v.category).sum ≤ 8) (hrm : d + 1 ≤ 10 ∧ 8 + (M'.2.2.1 + 11) + 30 * d ≤ 402) (hd : decode cL_law pc = .ok (.invokestatic i, 3)) (hcall : Call G d M' As S.1 (fun v u => v = some x ∧ u = S2)) (k : LW p e s m below meth c G b (pc + 3) lo (.int x :: rest) (S2, S.2)) : LW p e s m below meth c G b pc lo st S :=
  l_callS C0 hK hc hl1 hr hst hn hW hrm hd hcall (fun r u h => by obtain ⟨h1, rfl⟩ := h; cases h1; exact k)
theorem l_callL (C0 : lw_At p s m meth c b L xs) (hK : va_K G.2.1 mcl (mTy G) s) {M' : mM} {As rest : List Value} {Qc : Option Int32 → mS → Prop} {n i f2 w2 nc2 ns2 : Nat} (hc : CLm M' n) (hl1 : ML RL i M') {ty : FieldType} (hr : M'.2.2.2 = some ty) (hst : st = As.reverse ++ rest) (hn : As.length = n) (hW : (rest.map fun v => v.category).sum ≤ 8) (hrm : f2 + 1 ≤ 10 ∧ 8 + (M'.2.2.1 + 11) + w2 ≤ 402) (hkc : S.2.2.1 + nc2 ≤ 600000 ∧ S.2.2.2 + ns2 ≤ 7302249) (hd : decode cL_law pc = .ok (.invokestatic i, 3)) (hcall : CallL G f2 w2 nc2 ns2 M' As S.1 Qc) (k : ∀ r u, Qc (some r) u → LW p e s m below meth c G b (pc + 3) lo (.int r :: rest) (u, S.2.1, S.2.2.1 + nc2, S.2.2.2 + ns2)) : LW p e s m below meth c G b pc lo st S := by
  intro H ls hl hP hD hS
  obtain ⟨hS, hcs⟩ := hS
  subst hst
  have hM := hcall H.size
  have hF := freeC (G := G) hD hS (fun _ h => h)
  have e0 : mPost G M' Qc (va_A (mW G S.1) H.size) = va_Qi (fun r u => Qc (some r) u) (mBh G (va_A (mW G S.1) H.size)) (va_A (mW G S.1) H.size) := by unfold mPost; rw [hr]
  rw [e0] at hM
  have hbl := blindC (G := G) (av := As) (S' := S.1) (sz := H.size)
  refine va_calli (A1 := va_A (mW G S.1) H.size) (va_runS (R := room_1) (As := As) (rest := rest) (own := R_law) (Ts := lw_tbl) ⟨C0.1, C0.2.1, C0.2.2.2.1, C0.2.2.2.2.1, C0.2.2.2.2.2.1⟩ hM (va_cwS n C0.2.2.2.2.2.1 (gi_L (fun w hw => gm hw) hc hl1) rfl rfl rfl ⟨hc.2.1, hc.2.2.1, hc.2.2.2.1⟩ hrm) ⟨hbl, fun U hU hW => ⟨rfl, by rw [hU], by rw [hU]; exact hP, va_K.moved hW.alike hK, hD.weaken (fun _ _ _ _ => trivial)⟩⟩ rfl hn hl.1 rfl (lv_room hW) hd hkc) hS (fun q _ h => hF q h) hF (fun r u t H1 locs1 ht hvm hw hB hz1 hk1 hS1 => ?_)
  obtain ⟨hP1, hK1, hD1⟩ := hB
  rw [ht] at hP1
  refine va_forget (fun q hq => hS1.2.2 q hq) ?_
  exact k r u hw _ _ hl hP1 (apartC hD hD1) ⟨⟨hS1.1, hS1.2.1, fun _ h => absurd h List.not_mem_nil⟩, hkc⟩
theorem l_cell (C0 : lw_At p s m meth c b L xs) (hL : L ≤ 260) {i j : Nat} {rest : List Value} (hi : i < 1000) (hl1 : ML RL j M_L_cell) (hW : (rest.map fun v => v.category).sum ≤ 8) (hd : decode cL_law pc = .ok (.invokestatic j, 3)) (k : ∀ g : Int32, LW p e s m below meth c G b (pc + 3) lo (.int g :: rest) S) : LW p e s m below meth c G b pc lo (.int (nI i) :: .ref b :: rest) S := by
  intro H ls hl hP hD hS
  obtain ⟨hS, hcs⟩ := hS
  have hbl0 := C0.2.2.2.2.2.2.2.1
  have hX : va_X b L xs s H := va_X.kept C0.2.2.2.2.2.2.1 (hS.2.1 b hbl0 (Nat.not_le.mpr hbl0))
  have hbH : b < H.size := Nat.lt_of_lt_of_le hbl0 hS.1
  have hM := c_cell (G := G) (b := b) (L := L) (xs := xs) hi hL H.size
  have hbl : FrameBlind (va_Pc [Value.ref b, Value.int (nI i)] (fun U => U.heap.size = H.size ∧ b < H.size ∧ va_X b L xs U U.heap)) := fun a U g mk q => by
    obtain ⟨q0, q1, q2, q3⟩ := q
    exact ⟨q0, q1, q2, va_X.moved (u := U) (U := U.calling g mk a) (Vm.Alike.refl U.vm) q3⟩
  refine va_calli (A1 := fun q => H.size ≤ q) (va_runS (R := room_1) (As := [Value.ref b, Value.int (nI i)]) (rest := rest) (own := R_law) (Ts := lw_tbl) ⟨C0.1, C0.2.1, C0.2.2.2.1, C0.2.2.2.2.1, C0.2.2.2.2.2.1⟩ hM (va_cwS 2 C0.2.2.2.2.2.1 (gi_L (fun w hw => gm hw) cl_L_cell hl1) rfl rfl rfl ⟨cl_L_cell.2.1, cl_L_cell.2.2.1, cl_L_cell.2.2.2.1⟩ ⟨Nat.le_of_ble_eq_true rfl, Nat.le_of_ble_eq_true rfl⟩) ⟨hbl, fun U hU hW => ⟨rfl, by rw [hU], hbH, by rw [hU]; exact va_X.moved hW.alike hX⟩⟩ rfl rfl hl.1 rfl (lv_room hW) hd hcs) hS (fun q h1 h2 => absurd h1 (Nat.not_lt.mpr h2)) (fun q h => Nat.le_trans hS.1 h) (fun r u t H1 locs1 ht hvm hw hB hz1 hk1 hS1 => ?_)
  refine va_forget (fun q hq => hS1.2.2 q hq) ?_
  exact k r _ _ hl (hP.kept (fun k q hk => hk1 q.1 ((hP k q hk).lt) (Nat.not_le.mpr ((hP k q hk).lt)))) hD ⟨⟨hS1.1, hS1.2.1, fun _ h => absurd h List.not_mem_nil⟩, hcs⟩

end LAW
