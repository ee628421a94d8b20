/-! the law: the small methods, and what the class answers to the law -/
section ROWQ
variable {G : mG} {d : Nat} {M : mM} {Q : Option Int32 → mS → Prop} {pc : Nat} {lo : List (Nat × Value)} {st : List Value} {S : mS}
theorem r_ldc {i : Nat} {v : Int32} (hk : KI M.1.cls i v) (hd : decode M.2.1 pc = .ok (.ldc i, 2)) (k : At G d M Q (pc + 2) lo (.int v :: st) S) : At G d M Q pc lo st S := by
  intro p e s m args below meth c A H locs ls C hl hP hD hS
  exact lv_ldc C.1 C.2.1 C.2.2.2.2.1 (C.2.2.2.2.2.1 _ (List.mem_cons_of_mem _ hk)) hd (k _ _ _ _ _ _ _ _ _ _ _ _ C hl hP hD hS)
end ROWQ
section ROWZ
variable {G : mG} {f wd nc ns : Nat} {M : mM} {Q : Option Int32 → mS → Prop} {pc : Nat} {lo : List (Nat × Value)} {st : List Value} {S : mZ}
theorem z_drop (k : Lt G f wd nc ns M Q pc lo st (S.1, [], S.2.2)) : Lt G f wd nc ns M Q pc lo st S := by
  intro p e s m args below meth c A H locs ls C hl hP hD hS
  have hP1 : va_P G.2.1 mcl (zW G (S.1, [], S.2.2)) H := zP (Z := S) hP
  have hD1 : va_D A (zW G (S.1, [], S.2.2)) := zD (Z := S) hD
  exact k _ _ _ _ _ _ _ _ _ _ _ _ C hl hP1 hD1 hS
end ROWZ
def lowN (x : Int32) (n : Nat) : Nat := x.toBitVec.toNat % 2 ^ 31 % n
theorem lowN_lt {x : Int32} {n : Nat} (h : 0 < n) : lowN x n < n := Nat.mod_lt _ h
theorem t_L_low {G : mG} {d : Nat} {S : mS} {x : Int32} {n : Nat} (h0 : 0 < n) (h1 : n < 1000) : Call G d M_L_low [.int x, .int (nI n)] S (fun v u => v = some (nI (lowN x n)) ∧ u = S) := by
  refine call_of (lo := [(0, .int x), (1, .int (nI n))]) (by decide +kernel) (Nat.le_of_ble_eq_true rfl) rfl ?_
  have hn : ¬ nI n = 0 := nI_ne0 h0 (by omega)
  have e1 : x &&& 2147483647 = nI (x.toBitVec.toNat % 2 ^ 31) := pk_and x 31 (by decide +kernel)
  have hl : x.toBitVec.toNat % 2 ^ 31 < 2 ^ 31 := Nat.mod_lt _ (by decide)
  have e2 : (x &&& 2147483647) - (x &&& 2147483647) / nI n * nI n = nI (lowN x n) := by
    rw [e1]; exact pk_rem hl h0 (by omega)
  refine r_iload_n dL_low_0 0 rfl ?_
  refine r_ldc k_L_8 dL_low_1 ?_
  refine r_iand dL_low_3 ?_
  refine r_iload_n dL_low_4 1 rfl ?_
  refine r_irem dL_low_5 hn ?_
  refine r_iret rfl dL_low_6 ?_
  exact ⟨congrArg some e2, rfl⟩
theorem lp_L_size {G : mG} {d : Nat} {S : mS} {x : Int32} : ∀ n k, n + k = 16 → At G d M_L_size (fun v u => v = some (szF x 16) ∧ u = S) 4 [(0, .int x), (1, .int (szF x k)), (2, .int (nI k))] [] S := by
  intro n
  induction n with
  | zero =>
    intro k hk
    obtain rfl : k = 16 := by omega
    refine r_iload_n dL_size_4 2 rfl ?_
    refine r_bipush dL_size_5 (v := 16) (by decide +kernel) ?_
    refine r_icmp_ge dL_size_7 (tgt := 24) (by decide) (fun h7 => ?_) (fun h7 => ?_)
    · --t
      refine r_iload_n dL_size_24 1 rfl ?_
      refine r_iret rfl dL_size_25 ?_
      exact ⟨rfl, rfl⟩
    · --f
      exact absurd (show (16 : Int32) ≤ nI 16 by decide) h7
  | succ n ih =>
    intro k hk
    have hk16 : k < 16 := by omega
    refine r_iload_n dL_size_4 2 rfl ?_
    refine r_bipush dL_size_5 (v := 16) (by decide +kernel) ?_
    refine r_icmp_ge dL_size_7 (tgt := 24) (by decide) (fun h7 => ?_) (fun h7 => ?_)
    · --t
      exact absurd h7 (c16 hk16)
    · --f
      refine r_iload_n dL_size_10 1 rfl ?_
      refine r_iload_n dL_size_11 0 rfl ?_
      refine r_iload_n dL_size_12 2 rfl ?_
      refine r_ishr dL_size_13 ?_
      refine r_iconst dL_size_14 (v := 1) rfl ?_
      refine r_iand dL_size_15 ?_
      refine r_iadd dL_size_16 ?_
      refine r_istore_n (lo2 := [(0, _), (1, _), (2, _)]) dL_size_17 rfl (Nat.le_of_ble_eq_true rfl) [1, 0, 2] rfl ?_
      refine r_iinc (lo2 := [(0, _), (1, _), (2, _)]) dL_size_18 2 rfl (w := 1) rfl (Nat.le_of_ble_eq_true rfl) [1, 2, 0] rfl ?_
      refine r_goto dL_size_21 (tgt := 4) (by decide) ?_
      rw [nI_1]
      exact ih (k + 1) (by omega)
theorem t_L_size {G : mG} {d : Nat} {S : mS} {x : Int32} : Call G d M_L_size [.int x] S (fun v u => v = some (szF x 16) ∧ u = S) := by
  refine call_of (lo := [(0, .int x)]) (by decide +kernel) (Nat.le_of_ble_eq_true rfl) rfl ?_
  refine r_iconst dL_size_0 (v := 0) rfl ?_
  refine r_istore_n (lo2 := [(0, _), (1, _)]) dL_size_1 rfl (Nat.le_of_ble_eq_true rfl) [1, 0] rfl ?_
  refine r_iconst dL_size_2 (v := 0) rfl ?_
  refine r_istore_n (lo2 := [(0, _), (1, _), (2, _)]) dL_size_3 rfl (Nat.le_of_ble_eq_true rfl) [1, 2, 0] rfl ?_
  exact lp_L_size 16 0 (by omega)
section QUE
variable {G : mG} {S : mS} {N : mN} {t k : Nat}
theorem q_ofn (hW : WN N) (hS : LI S N) (ht : t < cnt N) (hk : k < 16) (h : knB (N.2 t) k = false) (w : Int32) : Call G 7 M_X4_of [rv G 0, .int (nI t), .int (nI k), .int w] S (fun v u => v = some (-1) ∧ u = S) := by
  have z := t_X4_of (G := G) (d := 4) (t := nI t) (k := nI k) (w := w) hW hS.1
  rw [of_no hW ht hk h] at z; exact z
theorem q_of0 (hW : WN N) (hS : LI S N) (ht : t < cnt N) (hk : k < 16) (h : knB (N.2 t) k = true) : Call G 7 M_X4_of [rv G 0, .int (nI t), .int (nI k), .int 0] S (fun v u => v = some ((N.2 t).2.1 k) ∧ u = S) := by
  have z := t_X4_of (G := G) (d := 4) (t := nI t) (k := nI k) (w := 0) hW hS.1
  rw [of_0 hW ht hk h] at z; exact z
theorem q_of1 (hW : WN N) (hS : LI S N) (ht : t < cnt N) (hk : k < 16) (h : knB (N.2 t) k = true) : Call G 7 M_X4_of [rv G 0, .int (nI t), .int (nI k), .int 1] S (fun v u => v = some ((N.2 t).2.2.1 k) ∧ u = S) := by
  have z := t_X4_of (G := G) (d := 4) (t := nI t) (k := nI k) (w := 1) hW hS.1
  rw [of_1 hW ht hk h] at z; exact z
theorem q_of2 (hW : WN N) (hS : LI S N) (ht : t < cnt N) (hk : k < 16) (h : knB (N.2 t) k = true) : Call G 7 M_X4_of [rv G 0, .int (nI t), .int (nI k), .int 2] S (fun v u => v = some ((N.2 t).2.2.2 k) ∧ u = S) := by
  have z := t_X4_of (G := G) (d := 4) (t := nI t) (k := nI k) (w := 2) hW hS.1
  rw [of_2 hW ht hk h] at z; exact z
theorem q_of3 (hW : WN N) (hS : LI S N) (ht : t < cnt N) (hk : k < 16) (h : knB (N.2 t) k = true) : Call G 7 M_X4_of [rv G 0, .int (nI t), .int (nI k), .int 3] S (fun v u => v = some (bI (bt ((N.2 t).1 5) k)) ∧ u = S) := by
  have z := t_X4_of (G := G) (d := 4) (t := nI t) (k := nI k) (w := 3) hW hS.1
  rw [of_3 hW ht hk h] at z; exact z
theorem q_t (hW : WN N) (hS : LI S N) {w x : Int32} (h : ofTA N (nI t) w = x) : Call G 7 M_X4_ofTroop [rv G 0, .int (nI t), .int w] S (fun v u => v = some x ∧ u = S) := by
  have z := t_X4_ofTroop (G := G) (d := 4) (t := nI t) (w := w) hW hS.1
  rw [h] at z; exact z
theorem q_wai (hW : WN N) (hS : LI S N) (ht : t < cnt N) : Call G 7 M_X4_waitsFor [rv G 0, .int (nI t)] S (fun v u => v = some (awM (N.2 t)) ∧ u = S) := by
  have z := t_X4_waitsFor (G := G) (d := 5) (t := nI t) hW hS.1
  have hc5 := hW.cn.2
  unfold waiA at z
  rw [if_pos (tr_ok hW ht), nI_clamp (by omega)] at z; exact z
theorem q_wain (hW : WN N) (hS : LI S N) : Call G 7 M_X4_waitsFor [rv G 0, .int (N.1 3)] S (fun v u => v = some (-1) ∧ u = S) := by
  have z := t_X4_waitsFor (G := G) (d := 5) (t := N.1 3) hW hS.1
  unfold waiA at z
  rw [tr_no hW] at z; exact z
theorem q_cnt (hW : WN N) (hS : LI S N) {w x : Int32} (h : ∀ n, cntA N 0 n w = x) : Call G 7 M_X4_count [rv G 0, .int w] S (fun v u => v = some x ∧ u = S) := by
  obtain ⟨h1, ⟨n, hh, h2⟩, h3⟩ := hS
  have en : S 19 2 = nI n := by obtain ⟨o, -, ⟨-, z⟩, -⟩ := h2; exact z
  have z := t_X4_count (G := G) (d := 5) (w := w) (n := n) (len := 0) hW h1 en h3
  rw [h n] at z; exact z
theorem q_why (hW : WN N) (hS : LI S N) {x y c : Int32} : Call G 7 M_X4_why [rv G 0, .int x, .int y, .int c] S (fun v u => v = some (whyA N x y c) ∧ u = S) := t_X4_why (d := 5) hW hS.1
theorem LI.step {u : mS} {N' : mN} {n : Nat} {h : Nat → mN} (hS : LI S N) (h1 : SP u 1 N') (h2 : HP u n h) (h3 : FC S u) : LI u N' := ⟨h1, ⟨n, h, h2⟩, by rw [h3 185 (by omega)]; exact hS.2.2⟩
theorem k_come (hW : WN N) (hS : LI S N) {x y c : Int32} : Call G 7 M_X4_come [rv G 0, .int x, .int y, .int c] S (fun v u => v = some (comO N x y c).1 ∧ LI u (comO N x y c).2) := by
  obtain ⟨n, h, hH⟩ := hS.2.1
  exact call_mono (t_X4_come (d := 0) hW hS.1 hH) (fun v u z => ⟨z.1, hS.step z.2.1 z.2.2.1 z.2.2.2⟩)
theorem k_lose (hW : WN N) (hS : LI S N) {x y : Int32} : Call G 7 M_X4_lose [rv G 0, .int x, .int y] S (fun v u => v = some (losO N x y).1 ∧ LI u (losO N x y).2) := by
  obtain ⟨n, h, hH⟩ := hS.2.1
  exact call_mono (t_X4_lose (d := 0) hW hS.1 hH) (fun v u z => ⟨z.1, hS.step z.2.1 z.2.2.1 z.2.2.2⟩)
theorem k_find (hW : WN N) (hS : LI S N) {x y : Int32} : Call G 7 M_X4_find [rv G 0, .int x, .int y] S (fun v u => v = some (finO N x y).1 ∧ LI u (finO N x y).2) := by
  obtain ⟨n, h, hH⟩ := hS.2.1
  exact call_mono (t_X4_find (d := 0) hW hS.1 hH) (fun v u z => ⟨z.1, hS.step z.2.1 z.2.2.1 z.2.2.2⟩)
theorem k_resize (hW : WN N) (hS : LI S N) {x y : Int32} : Call G 7 M_X4_resize [rv G 0, .int x, .int y] S (fun v u => v = some (rszO N x y).1 ∧ LI u (rszO N x y).2) := by
  obtain ⟨n, h, hH⟩ := hS.2.1
  exact call_mono (t_X4_resize (d := 0) hW hS.1 hH) (fun v u z => ⟨z.1, hS.step z.2.1 z.2.2.1 z.2.2.2⟩)
theorem k_set (hW : WN N) (hS : LI S N) {x y : Int32} : Call G 7 M_X4_set [rv G 0, .int x, .int y] S (fun v u => v = some (setO N x y).1 ∧ LI u (setO N x y).2) := by
  obtain ⟨n, h, hH⟩ := hS.2.1
  exact call_mono (t_X4_set (d := 0) hW hS.1 hH) (fun v u z => ⟨z.1, hS.step z.2.1 z.2.2.1 z.2.2.2⟩)
theorem k_troop (hW : WN N) (hS : LI S N) {x : Int32} : Call G 7 M_X4_troop [rv G 0, .int x] S (fun v u => v = some (addO N x).1 ∧ LI u (addO N x).2) := by
  obtain ⟨n, h, hH⟩ := hS.2.1
  exact call_mono (t_X4_troop (d := 0) hW hS.1 hH) (fun v u z => ⟨z.1, hS.step z.2.1 z.2.2.1 z.2.2.2⟩)
theorem k_pass (hW : WN N) (hS : LI S N) {x : Int32} : Call G 7 M_X4_pass [rv G 0, .int x] S (fun v u => v = some (pasO N x).1 ∧ LI u (pasO N x).2) := by
  obtain ⟨n, h, hH⟩ := hS.2.1
  exact call_mono (t_X4_pass (d := 0) hW hS.1 hH) (fun v u z => ⟨z.1, hS.step z.2.1 z.2.2.1 z.2.2.2⟩)
end QUE
