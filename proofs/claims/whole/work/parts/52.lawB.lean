/-! the law: rows, and its 21 calls -/
theorem k_L_72 : Cond.constantLong RL 72 4294967295 ∈ gtbl := mem_g 751 (by decide +kernel) rfl
section LAW
variable {p : Program} {e : Env} {s : State} {m : MethodId} {below : List Frame} {meth : Method} {c : Code} {G : mG} {b L : Nat} {xs : Nat → Int32} {pc : Nat} {lo : List (Nat × Value)} {st : List Value} {S : mS}
theorem l_iconst {n : Int} {v : Int32} (C0 : lw_At p s m meth c b L xs) (hd : decode cL_law pc = .ok (.iconst n, 1)) (hv : Int32.ofInt n = v) (k : LW p e s m below meth c G b (pc + 1) lo (.int v :: st) S) : LW p e s m below meth c G b pc lo st S := by
  intro H ls hl hP hD hS
  exact lv_iconst C0.1 C0.2.1 hd hv (k _ _ hl hP hD hS)
theorem l_bipush {n : Int} {v : Int32} (C0 : lw_At p s m meth c b L xs) (hd : decode cL_law pc = .ok (.bipush n, 2)) (hv : (Int8.ofInt n).toInt32 = v) (k : LW p e s m below meth c G b (pc + 2) lo (.int v :: st) S) : LW p e s m below meth c G b pc lo st S := by
  intro H ls hl hP hD hS
  exact lv_bipush C0.1 C0.2.1 hd hv (k _ _ hl hP hD hS)
theorem l_aload_n {n : Fin 4} {x : Nat} (C0 : lw_At p s m meth c b L xs) (hd : decode cL_law pc = .ok (.aload_n n, 1)) (j : Nat) (hg : lo[j]? = some ((n : Nat), .ref x)) (k : LW p e s m below meth c G b (pc + 1) lo (.ref x :: st) S) : LW p e s m below meth c G b pc lo st S := by
  intro H ls hl hP hD hS
  exact lv_aload_n C0.1 C0.2.1 hd rfl (lv_at hl j hg) (k _ _ hl hP hD hS)
theorem l_iload_n {n : Fin 4} {x : Int32} (C0 : lw_At p s m meth c b L xs) (hd : decode cL_law pc = .ok (.iload_n n, 1)) (j : Nat) (hg : lo[j]? = some ((n : Nat), .int x)) (k : LW p e s m below meth c G b (pc + 1) lo (.int x :: st) S) : LW p e s m below meth c G b pc lo st S := by
  intro H ls hl hP hD hS
  exact lv_iload_n C0.1 C0.2.1 hd rfl (lv_at hl j hg) (k _ _ hl hP hD hS)
theorem l_ldc2 {i : Nat} {v : Int64} (C0 : lw_At p s m meth c b L xs) (hk : Cond.constantLong RL i v ∈ gtbl) (hd : decode cL_law pc = .ok (.ldc2_w i, 3)) (k : LW p e s m below meth c G b (pc + 3) lo (.long v :: st) S) : LW p e s m below meth c G b pc lo st S := by
  intro H ls hl hP hD hS
  exact lv_ldc2 (own := R_law) C0.1 C0.2.1 C0.2.2.2.2.1 (C0.2.2.2.2.2.1 _ (List.mem_filter.mp hk).1) hd (k _ _ hl hP hD hS)
theorem l_iadd {x y : Int32} (C0 : lw_At p s m meth c b L xs) (hd : decode cL_law pc = .ok (.iadd, 1)) (k : LW p e s m below meth c G b (pc + 1) lo (.int (x + y) :: st) S) : LW p e s m below meth c G b pc lo (.int y :: .int x :: st) S := by
  intro H ls hl hP hD hS
  exact lv_iadd C0.1 C0.2.1 hd (k _ _ hl hP hD hS)
theorem l_isub {x y : Int32} (C0 : lw_At p s m meth c b L xs) (hd : decode cL_law pc = .ok (.isub, 1)) (k : LW p e s m below meth c G b (pc + 1) lo (.int (x - y) :: st) S) : LW p e s m below meth c G b pc lo (.int y :: .int x :: st) S := by
  intro H ls hl hP hD hS
  exact lv_isub C0.1 C0.2.1 hd (k _ _ hl hP hD hS)
theorem l_iand {x y : Int32} (C0 : lw_At p s m meth c b L xs) (hd : decode cL_law pc = .ok (.iand, 1)) (k : LW p e s m below meth c G b (pc + 1) lo (.int (x &&& y) :: st) S) : LW p e s m below meth c G b pc lo (.int y :: .int x :: st) S := by
  intro H ls hl hP hD hS
  exact lv_iand C0.1 C0.2.1 hd (k _ _ hl hP hD hS)
theorem l_land {x y : Int64} (C0 : lw_At p s m meth c b L xs) (hd : decode cL_law pc = .ok (.land, 1)) (k : LW p e s m below meth c G b (pc + 1) lo (.long (x &&& y) :: st) S) : LW p e s m below meth c G b pc lo (.long y :: .long x :: st) S := by
  intro H ls hl hP hD hS
  exact lv_land C0.1 C0.2.1 hd (k _ _ hl hP hD hS)
theorem l_lor {x y : Int64} (C0 : lw_At p s m meth c b L xs) (hd : decode cL_law pc = .ok (.lor, 1)) (k : LW p e s m below meth c G b (pc + 1) lo (.long (x ||| y) :: st) S) : LW p e s m below meth c G b pc lo (.long y :: .long x :: st) S := by
  intro H ls hl hP hD hS
  exact lv_lor C0.1 C0.2.1 hd (k _ _ hl hP hD hS)
theorem l_lshl {x : Int64} {y : Int32} (C0 : lw_At p s m meth c b L xs) (hd : decode cL_law pc = .ok (.lshl, 1)) (k : LW p e s m below meth c G b (pc + 1) lo (.long (x <<< (y.toInt64 &&& 63)) :: st) S) : LW p e s m below meth c G b pc lo (.int y :: .long x :: st) S := by
  intro H ls hl hP hD hS
  exact lv_lshl C0.1 C0.2.1 hd rfl (k _ _ hl hP hD hS)
theorem l_i2l {x : Int32} (C0 : lw_At p s m meth c b L xs) (hd : decode cL_law pc = .ok (.i2l, 1)) (k : LW p e s m below meth c G b (pc + 1) lo (.long x.toInt64 :: st) S) : LW p e s m below meth c G b pc lo (.int x :: st) S := by
  intro H ls hl hP hD hS
  exact lv_i2l C0.1 C0.2.1 hd rfl (k _ _ hl hP hD hS)
theorem l_goto {off : Int} {tgt : Nat} (C0 : lw_At p s m meth c b L xs) (hd : decode cL_law pc = .ok (.goto off, 3)) (ht : (pc : Int) + off = (tgt : Int)) (k : LW p e s m below meth c G b tgt lo st S) : LW p e s m below meth c G b pc lo st S := by
  intro H ls hl hP hD hS
  exact lv_goto C0.1 C0.2.1 hd ht (k _ _ hl hP hD hS)
theorem l_slen  (C0 : lw_At p s m meth c b L xs) (hd : decode cL_law pc = .ok (.arraylength, 1)) (k : LW p e s m below meth c G b (pc + 1) lo (.int (Int32.ofNat L) :: st) S) : LW p e s m below meth c G b pc lo (.ref b :: st) S := by
  intro H ls hl hP hD hS
  exact va_slen C0.1 C0.2.1 C0.2.2.2.2.2.2.1 C0.2.2.2.2.2.2.2.1 (Nat.not_le.mpr C0.2.2.2.2.2.2.2.1) hS hd (k _ _ hl hP hD hS)
theorem l_sld {x : Int32} {j : Nat} (C0 : lw_At p s m meth c b L xs) (hL : L ≤ 2048) (hx : x = nI j) (hj : j < L) (hd : decode cL_law pc = .ok (.iaload, 1)) (k : LW p e s m below meth c G b (pc + 1) lo (.int (xs j) :: st) S) : LW p e s m below meth c G b pc lo (.int x :: .ref b :: st) S := by
  intro H ls hl hP hD hS
  refine va_sld C0.1 C0.2.1 C0.2.2.2.2.2.2.1 C0.2.2.2.2.2.2.2.1 (Nat.not_le.mpr C0.2.2.2.2.2.2.2.1) hS (in_of hx hj (by omega)) hd ?_
  have ej : x.toNatClampNeg = j := by rw [hx]; exact nI_clamp (by omega)
  rw [ej]
  exact k _ _ hl hP hD hS
theorem l_icmp_gt {x y : Int32} {off : Int} {tgt : Nat} (C0 : lw_At p s m meth c b L xs) (hd : decode cL_law pc = .ok (.if_icmp .gt off, 3)) (ht : (pc : Int) + off = (tgt : Int)) (kt : y < x → LW p e s m below meth c G b tgt lo st S) (kf : ¬ y < x → LW p e s m below meth c G b (pc + 3) lo st S) : LW p e s m below meth c G b pc lo (.int y :: .int x :: st) S := by
  intro H ls hl hP hD hS
  exact lv_icmp_gt C0.1 C0.2.1 hd ht (fun z => kt z _ _ hl hP hD hS) (fun z => kf z _ _ hl hP hD hS)
theorem l_icmp_eq {x : Int32} {off : Int} {tgt : Nat} (C0 : lw_At p s m meth c b L xs) (hd : decode cL_law pc = .ok (.if_icmp .eq off, 3)) (ht : (pc : Int) + off = (tgt : Int)) (kt : LW p e s m below meth c G b tgt lo st S) : LW p e s m below meth c G b pc lo (.int x :: .int x :: st) S := by
  intro H ls hl hP hD hS
  exact lv_icmp_eq C0.1 C0.2.1 hd ht (fun _ => kt _ _ hl hP hD hS) (fun z => absurd rfl z)
theorem l_tabIn {dflt lw hi : Int} {offs : Array Int} {len : Nat} {x : Int32} {off : Int} {tgt : Nat} (C0 : lw_At p s m meth c b L xs) (hd : decode cL_law pc = .ok (.tableswitch dflt lw hi offs, len)) (h1 : ¬ x.toInt < lw) (h2 : ¬ hi < x.toInt) (ho : offs[(x.toInt - lw).toNat]? = some off) (ht : (pc : Int) + off = (tgt : Int)) (k : LW p e s m below meth c G b tgt lo st S) : LW p e s m below meth c G b pc lo (.int x :: st) S := by
  intro H ls hl hP hD hS
  exact lv_tableIn C0.1 C0.2.1 hd h1 h2 ho ht (k _ _ hl hP hD hS)
theorem l_tabOut {dflt lw hi : Int} {offs : Array Int} {len : Nat} {x : Int32} {tgt : Nat} (C0 : lw_At p s m meth c b L xs) (hd : decode cL_law pc = .ok (.tableswitch dflt lw hi offs, len)) (h : x.toInt < lw ∨ hi < x.toInt) (ht : (pc : Int) + dflt = (tgt : Int)) (k : LW p e s m below meth c G b tgt lo st S) : LW p e s m below meth c G b pc lo (.int x :: st) S := by
  intro H ls hl hP hD hS
  exact lv_tableOut C0.1 C0.2.1 hd h ht (k _ _ hl hP hD hS)
theorem l_iinc {i : Nat} {n : Int} {x w : Int32} {lo2 : List (Nat × Value)} (C0 : lw_At p s m meth c b L xs) (hd : decode cL_law pc = .ok (.iinc i n, 3)) (j : Nat) (hg : lo[j]? = some (i, .int x)) (hw : Int32.ofInt n = w) (hn : i < 4) (ps : List Nat) (hs : lv_pick ((i, .int (x + w)) :: lo.filter (fun q => !(q.1 == i) && !(q.1 + 1 == i && q.2.category == 2))) ps = lo2) (k : LW p e s m below meth c G b (pc + 3) lo2 st S) : LW p e s m below meth c G b pc lo st S := by
  intro H ls hl hP hD hS
  subst hw
  exact lv_iinc C0.1 C0.2.1 hd hl (k := j) hg rfl hn rfl (fun ls' hl => k _ _ (lv_sub hl ps hs) hP hD hS)
theorem l_ret (C0 : lw_At p s m meth c b L xs) (hd : decode cL_law pc = .ok (.ireturn, 1)) : LW p e s m below meth c G b pc lo [.int 1] S := by
  intro H ls hl hP hD hS
  exact lw_ret C0.1 C0.2.1 C0.2.2.1 C0.2.2.2.2.2.2.2.2.1 hd
end LAW
/-- what the class's cells and the reference's cells say, the same of both -/
def Inv (S : mS) : Prop := ∃ (N : mN) (n : Nat) (h : Nat → mN) (sv : Nat → Bool) (sl : Nat → mN) (len : Nat) (P : Nat → Int32), WN N ∧ (SP S 1 N ∧ HP S n h ∧ SL S sv sl ∧ PB S P len) ∧ RP (S 191) N ∧ HM S n h ∧ SM S sv sl ∧ PM S P len
def CI (S : mS) (N : mN) (n : Nat) (h : Nat → mN) (sv : Nat → Bool) (sl : Nat → mN) (len : Nat) (P : Nat → Int32) : Prop := SP S 1 N ∧ HP S n h ∧ SL S sv sl ∧ PB S P len
def RI (S : mS) (N : mN) (n : Nat) (h : Nat → mN) (sv : Nat → Bool) (sl : Nat → mN) (len : Nat) (P : Nat → Int32) : Prop := RP (S 191) N ∧ HM S n h ∧ SM S sv sl ∧ PM S P len
theorem CI.off {S u : mS} {N : mN} {n : Nat} {h : Nat → mN} {sv : Nat → Bool} {sl : Nat → mN} {len : Nat} {P : Nat → Int32} (g : CI S N n h sv sl len P) (hW : WN N) (k : ∀ x, x < 190 → u x = S x) : CI u N n h sv sl len P :=
  ⟨g.1.off hW.cn.2 (fun x _ h2 => k x (by omega)), g.2.1.off (fun x _ h2 => k x (by omega)), g.2.2.1.off (fun x _ h2 => k x (by omega)), g.2.2.2.off (k 185 (by omega)) (k 186 (by omega))⟩
theorem PM.same {S u : mS} {P : Nat → Int32} {len : Nat} (g : PM S P len) (e1 : u 190 8 = S 190 8) (e2 : u 197 = S 197) : PM u P len := ⟨⟨e1.trans g.1.1, g.1.2⟩, fun j hj => by rw [e2]; exact g.2 j hj⟩
theorem RI.off {S u : mS} {N : mN} {n : Nat} {h : Nat → mN} {sv : Nat → Bool} {sl : Nat → mN} {len : Nat} {P : Nat → Int32} (g : RI S N n h sv sl len P) (k : ∀ x, 190 ≤ x → u x = S x) : RI u N n h sv sl len P :=
  ⟨by rw [k 191 (by omega)]; exact g.1, g.2.1.same (by rw [k 190 (by omega)]) (k 192 (by omega)), g.2.2.1.same (k 196 (by omega)) (k 195 (by omega)), g.2.2.2.same (by rw [k 190 (by omega)]) (k 197 (by omega))⟩
