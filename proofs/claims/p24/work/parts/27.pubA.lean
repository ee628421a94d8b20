/-! the class's public changes -/
theorem wn_rsz {N : mN} (hW : WN N) (t s : Int32) : WN (rszO N t s).2 := by
  unfold rszO
  rcases tr_cases hW t with h | ⟨T, h, rfl, hT, hT5, eT⟩
  · rw [h]; exact hW
  · rw [h, if_pos rfl, eT]
    rcases sz_cases s with h2 | ⟨n, h2, rfl, hn1, hn2⟩
    · rw [h2]; exact hW
    · rw [h2, if_pos rfl]; exact hW.tr (wf_rsz (hW.2 T hT) hn1 hn2)
theorem wn_comN {N : mN} (hW : WN N) {T K : Nat} {h : Int32} (hT : T < cnt N) (hK : K < tsz (N.2 T)) (hh : h = 1 ∨ h = 2) : WN (comN N T K h).2 :=
  hW.tr (wf_opn _ 3 _ (wf_set (hW.2 T hT) hK (by rcases hh with z | z <;> simp [z])))
theorem wn_com {N : mN} (hW : WN N) (t k c : Int32) : WN (comO N t k c).2 := by
  unfold comO
  by_cases h : whyA N t k c < 0
  · rw [if_pos h]; exact hW
  · rw [if_neg h]
    by_cases h4 : whyA N t k c = 4
    · obtain ⟨T, K, rfl, hT, hT5, eT, rfl, hK, hK16, eK, -⟩ := why_in hW (Or.inr h4)
      rw [if_pos h4, eT, eK]
      exact wn_comN (wn_ery hW) hT hK (Or.inr rfl)
    · rw [if_neg h4]
      by_cases h0 : whyA N t k c = 0
      · obtain ⟨T, K, rfl, hT, hT5, eT, rfl, hK, hK16, eK, -⟩ := why_in hW (Or.inl h0)
        rw [if_pos h0, eT, eK]
        exact wn_comN hW hT hK (Or.inl rfl)
      · rw [if_neg h0]; exact hW
theorem wn_los {N : mN} (hW : WN N) (t k : Int32) : WN (losO N t k).2 := by
  unfold losO
  rcases sc_cases hW t k with h | ⟨T, K, h, -, rfl, hT, hT5, eT, rfl, hK, hK16, eK⟩
  · rw [h]; exact hW
  · rw [h, if_pos rfl, eT, eK]
    split
    · exact hW
    · exact hW.tr (wf_set (hW.2 T hT) hK (by simp))
theorem wn_fin {N : mN} (hW : WN N) (t k : Int32) : WN (finO N t k).2 := by
  unfold finO
  rcases sc_cases hW t k with h | ⟨T, K, h, -, rfl, hT, hT5, eT, rfl, hK, hK16, eK⟩
  · rw [h]; exact hW
  · rw [h, if_pos rfl, eT, eK]
    split
    · exact hW.tr (wf_set (hW.2 T hT) hK (by simp))
    · exact hW
theorem wn_pas {N : mN} (hW : WN N) (m : Int32) : WN (pasO N m).2 := by
  unfold pasO
  split
  · exact hW
  · split
    · exact hW
    · exact (wn_itM m.toNatClampNeg N hW).1.glob (by simp [upd])
theorem wn_set {N : mN} (hW : WN N) (s v : Int32) : WN (setO N s v).2 := by
  unfold setO
  split
  · rename_i h
    refine hW.glob ?_
    rcases h with ⟨rfl, -⟩ | ⟨rfl, -⟩ <;> rfl
  · exact hW
theorem HP.fs {S u : mS} {n : Nat} {h : Nat → mN} (g : HP S n h) (k : FS 1 S u) : HP u n h := g.off (fun c c1 c2 => k c (by omega))
theorem HN.fs {S u : mS} {n : Nat} {h : Nat → mN} {N : mN} (g : HN S n h N) (k : FS 1 S u) : HN u n h N := g.off (fun c c1 c2 => k c (by omega))
def rcN (x : Int32) (n : Nat) : Nat := if x < 0 then n else psN n
def rcH (x : Int32) (n : Nat) (h : Nat → mN) (N : mN) : Nat → mN := if x < 0 then h else psH n h N
/-- between the calls: the cells of the current state and of the history alone may have changed -/
def FC (S u : mS) : Prop := ∀ c, (c < 1 ∨ 147 ≤ c) → u c = S c
section PUB
variable {G : mG} {d : Nat} {S : mS} {N : mN} {n : Nat} {h : Nat → mN} {t k c s v x : Int32}
theorem t_X4_recorded (hP : HN S n h N) : Call G (d + 1) M_X4_recorded [rv G 0, .int x] S (fun v u => v = some x ∧ HP u (rcN x n) (rcH x n h N) ∧ FH S u) := by
  refine call_of (lo := [(0, rv G 0), (1, .int x)]) (by decide +kernel) (Nat.le_of_ble_eq_true rfl) rfl ?_
  unfold rcN rcH
  by_cases hx : x < 0
  · rw [if_pos hx, if_pos hx]
    refine r_iload_n dX4_recorded_0 1 rfl ?_
    refine r_if_lt dX4_recorded_1 (tgt := 11) (by decide) (fun h1 => ?_) (fun h1 => ?_)
    · --t
      refine r_iload_n dX4_recorded_11 1 rfl ?_
      refine r_iret rfl dX4_recorded_12 ?_
      exact ⟨rfl, hP.hp, FH.rf⟩
    · --f
      exact absurd hx h1
  · rw [if_neg hx, if_neg hx]
    refine r_iload_n dX4_recorded_0 1 rfl ?_
    refine r_if_lt dX4_recorded_1 (tgt := 11) (by decide) (fun h1 => ?_) (fun h1 => ?_)
    · --t
      exact absurd h1 hx
    · --f
      refine r_aload_n dX4_recorded_4 0 rfl ?_
      refine r_getR (b := 19) (by first | assumption | rfl) f_X4_19 rfl rfl dX4_recorded_5 rfl ?_
      refine r_callVv (As := []) c_X0_keepNoted (by first | assumption | rfl) l_X4_92 rfl rfl rfl (Nat.le_of_ble_eq_true rfl) dX4_recorded_8 (t_X0_keepNoted hP) (fun u8 q8 => ?_)
      obtain ⟨-, hP2, hF2⟩ := q8
      refine r_iload_n dX4_recorded_11 1 rfl ?_
      refine r_iret rfl dX4_recorded_12 ?_
      exact ⟨rfl, hP2, hF2⟩
theorem SP.fh {S u : mS} {N : mN} (h : SP S 1 N) (hc : cnt N ≤ 5) (g : FH S u) : SP u 1 N := h.off hc (fun c c1 c2 => g c (by omega))
theorem t_X4_troop (hW : WN N) (hS : SP S 1 N) (hH : HP S n h) : Call G (d + 7) M_X4_troop [rv G 0, .int s] S (fun v u => v = some (addO N s).1 ∧ SP u 1 (addO N s).2 ∧ HP u (rcN (addO N s).1 n) (rcH (addO N s).1 n h N) ∧ FC S u) := by
  refine call_of (lo := [(0, rv G 0), (1, .int s)]) (by decide +kernel) (Nat.le_of_ble_eq_true rfl) rfl ?_
  refine r_aload_n dX4_troop_0 0 rfl ?_
  refine r_getR (b := 19) (by first | assumption | rfl) f_X4_19 rfl rfl dX4_troop_1 rfl ?_
  refine r_aload_n dX4_troop_4 0 rfl ?_
  refine r_getR (b := 1) (by first | assumption | rfl) f_X4_10 rfl rfl dX4_troop_5 rfl ?_
  refine r_callVv (As := [_]) c_X0_note (by first | assumption | rfl) l_X4_45 rfl rfl rfl (Nat.le_of_ble_eq_true rfl) dX4_troop_8 (t_X0_note hH hW hS) (fun u8 q8 => ?_)
  obtain ⟨-, g1, f1⟩ := q8
  refine r_aload_n dX4_troop_11 0 rfl ?_
  refine r_aload_n dX4_troop_12 0 rfl ?_
  refine r_iload_n dX4_troop_13 1 rfl ?_
  refine r_callVi (As := [_]) c_X4_addTroop (by first | assumption | rfl) l_X4_57 rfl rfl rfl (Nat.le_of_ble_eq_true rfl) dX4_troop_14 (t_X4_addTroop hW (hS.fh hW.cn.2 f1)) (fun r14 u14 q14 => ?_)
  obtain ⟨e2, g2, f2⟩ := q14
  cases e2
  refine r_callVi (As := [_]) c_X4_recorded (by first | assumption | rfl) l_X4_53 rfl rfl rfl (Nat.le_of_ble_eq_true rfl) dX4_troop_17 (t_X4_recorded (g1.fs f2)) (fun r17 u17 q17 => ?_)
  obtain ⟨e3, g3, f3⟩ := q17
  cases e3
  refine r_iret rfl dX4_troop_20 ?_
  exact ⟨rfl, g2.fh (hW.add0 s).cn.2 f3, g3, fun b hb => (f3 b (by omega)).trans ((f2 b (by omega)).trans (f1 b (by omega)))⟩
theorem t_X4_resize (hW : WN N) (hS : SP S 1 N) (hH : HP S n h) : Call G (d + 7) M_X4_resize [rv G 0, .int t, .int s] S (fun v u => v = some (rszO N t s).1 ∧ SP u 1 (rszO N t s).2 ∧ HP u (rcN (rszO N t s).1 n) (rcH (rszO N t s).1 n h N) ∧ FC S u) := by
  refine call_of (lo := [(0, rv G 0), (1, .int t), (2, .int s)]) (by decide +kernel) (Nat.le_of_ble_eq_true rfl) rfl ?_
  refine r_aload_n dX4_resize_0 0 rfl ?_
  refine r_getR (b := 19) (by first | assumption | rfl) f_X4_19 rfl rfl dX4_resize_1 rfl ?_
  refine r_aload_n dX4_resize_4 0 rfl ?_
  refine r_getR (b := 1) (by first | assumption | rfl) f_X4_10 rfl rfl dX4_resize_5 rfl ?_
  refine r_callVv (As := [_]) c_X0_note (by first | assumption | rfl) l_X4_45 rfl rfl rfl (Nat.le_of_ble_eq_true rfl) dX4_resize_8 (t_X0_note hH hW hS) (fun u8 q8 => ?_)
  obtain ⟨-, g1, f1⟩ := q8
  refine r_aload_n dX4_resize_11 0 rfl ?_
  refine r_aload_n dX4_resize_12 0 rfl ?_
  refine r_iload_n dX4_resize_13 1 rfl ?_
  refine r_iload_n dX4_resize_14 2 rfl ?_
  refine r_callVi (As := [_, _]) c_X4_changeSize (by first | assumption | rfl) l_X4_60 rfl rfl rfl (Nat.le_of_ble_eq_true rfl) dX4_resize_15 (t_X4_changeSize hW (hS.fh hW.cn.2 f1)) (fun r15 u15 q15 => ?_)
  obtain ⟨e2, g2, f2⟩ := q15
  cases e2
  refine r_callVi (As := [_]) c_X4_recorded (by first | assumption | rfl) l_X4_53 rfl rfl rfl (Nat.le_of_ble_eq_true rfl) dX4_resize_18 (t_X4_recorded (g1.fs f2)) (fun r18 u18 q18 => ?_)
  obtain ⟨e3, g3, f3⟩ := q18
  cases e3
  refine r_iret rfl dX4_resize_21 ?_
  exact ⟨rfl, g2.fh (wn_rsz hW t s).cn.2 f3, g3, fun b hb => (f3 b (by omega)).trans ((f2 b (by omega)).trans (f1 b (by omega)))⟩
theorem t_X4_come (hW : WN N) (hS : SP S 1 N) (hH : HP S n h) : Call G (d + 7) M_X4_come [rv G 0, .int t, .int k, .int c] S (fun v u => v = some (comO N t k c).1 ∧ SP u 1 (comO N t k c).2 ∧ HP u (rcN (comO N t k c).1 n) (rcH (comO N t k c).1 n h N) ∧ FC S u) := by
  refine call_of (lo := [(0, rv G 0), (1, .int t), (2, .int k), (3, .int c)]) (by decide +kernel) (Nat.le_of_ble_eq_true rfl) rfl ?_
  refine r_aload_n dX4_come_0 0 rfl ?_
  refine r_getR (b := 19) (by first | assumption | rfl) f_X4_19 rfl rfl dX4_come_1 rfl ?_
  refine r_aload_n dX4_come_4 0 rfl ?_
  refine r_getR (b := 1) (by first | assumption | rfl) f_X4_10 rfl rfl dX4_come_5 rfl ?_
  refine r_callVv (As := [_]) c_X0_note (by first | assumption | rfl) l_X4_45 rfl rfl rfl (Nat.le_of_ble_eq_true rfl) dX4_come_8 (t_X0_note hH hW hS) (fun u8 q8 => ?_)
  obtain ⟨-, g1, f1⟩ := q8
  refine r_aload_n dX4_come_11 0 rfl ?_
  refine r_aload_n dX4_come_12 0 rfl ?_
  refine r_iload_n dX4_come_13 1 rfl ?_
  refine r_iload_n dX4_come_14 2 rfl ?_
  refine r_iload_n dX4_come_15 3 rfl ?_
  refine r_callVi (As := [_, _, _]) c_X4_letCome (by first | assumption | rfl) l_X4_64 rfl rfl rfl (Nat.le_of_ble_eq_true rfl) dX4_come_16 (t_X4_letCome hW (hS.fh hW.cn.2 f1)) (fun r16 u16 q16 => ?_)
  obtain ⟨e2, g2, f2⟩ := q16
  cases e2
  refine r_callVi (As := [_]) c_X4_recorded (by first | assumption | rfl) l_X4_53 rfl rfl rfl (Nat.le_of_ble_eq_true rfl) dX4_come_19 (t_X4_recorded (g1.fs f2)) (fun r19 u19 q19 => ?_)
  obtain ⟨e3, g3, f3⟩ := q19
  cases e3
  refine r_iret rfl dX4_come_22 ?_
  exact ⟨rfl, g2.fh (wn_com hW t k c).cn.2 f3, g3, fun b hb => (f3 b (by omega)).trans ((f2 b (by omega)).trans (f1 b (by omega)))⟩
theorem t_X4_lose (hW : WN N) (hS : SP S 1 N) (hH : HP S n h) : Call G (d + 7) M_X4_lose [rv G 0, .int t, .int k] S (fun v u => v = some (losO N t k).1 ∧ SP u 1 (losO N t k).2 ∧ HP u (rcN (losO N t k).1 n) (rcH (losO N t k).1 n h N) ∧ FC S u) := by
  refine call_of (lo := [(0, rv G 0), (1, .int t), (2, .int k)]) (by decide +kernel) (Nat.le_of_ble_eq_true rfl) rfl ?_
  refine r_aload_n dX4_lose_0 0 rfl ?_
  refine r_getR (b := 19) (by first | assumption | rfl) f_X4_19 rfl rfl dX4_lose_1 rfl ?_
  refine r_aload_n dX4_lose_4 0 rfl ?_
  refine r_getR (b := 1) (by first | assumption | rfl) f_X4_10 rfl rfl dX4_lose_5 rfl ?_
  refine r_callVv (As := [_]) c_X0_note (by first | assumption | rfl) l_X4_45 rfl rfl rfl (Nat.le_of_ble_eq_true rfl) dX4_lose_8 (t_X0_note hH hW hS) (fun u8 q8 => ?_)
  obtain ⟨-, g1, f1⟩ := q8
  refine r_aload_n dX4_lose_11 0 rfl ?_
  refine r_aload_n dX4_lose_12 0 rfl ?_
  refine r_iload_n dX4_lose_13 1 rfl ?_
  refine r_iload_n dX4_lose_14 2 rfl ?_
  refine r_callVi (As := [_, _]) c_X4_loseScout (by first | assumption | rfl) l_X4_68 rfl rfl rfl (Nat.le_of_ble_eq_true rfl) dX4_lose_15 (t_X4_loseScout hW (hS.fh hW.cn.2 f1)) (fun r15 u15 q15 => ?_)
  obtain ⟨e2, g2, f2⟩ := q15
  cases e2
  refine r_callVi (As := [_]) c_X4_recorded (by first | assumption | rfl) l_X4_53 rfl rfl rfl (Nat.le_of_ble_eq_true rfl) dX4_lose_18 (t_X4_recorded (g1.fs f2)) (fun r18 u18 q18 => ?_)
  obtain ⟨e3, g3, f3⟩ := q18
  cases e3
  refine r_iret rfl dX4_lose_21 ?_
  exact ⟨rfl, g2.fh (wn_los hW t k).cn.2 f3, g3, fun b hb => (f3 b (by omega)).trans ((f2 b (by omega)).trans (f1 b (by omega)))⟩
theorem t_X4_pass (hW : WN N) (hS : SP S 1 N) (hH : HP S n h) : Call G (d + 7) M_X4_pass [rv G 0, .int t] S (fun v u => v = some (pasO N t).1 ∧ SP u 1 (pasO N t).2 ∧ HP u (rcN (pasO N t).1 n) (rcH (pasO N t).1 n h N) ∧ FC S u) := by
  refine call_of (lo := [(0, rv G 0), (1, .int t)]) (by decide +kernel) (Nat.le_of_ble_eq_true rfl) rfl ?_
  refine r_aload_n dX4_pass_0 0 rfl ?_
  refine r_getR (b := 19) (by first | assumption | rfl) f_X4_19 rfl rfl dX4_pass_1 rfl ?_
  refine r_aload_n dX4_pass_4 0 rfl ?_
  refine r_getR (b := 1) (by first | assumption | rfl) f_X4_10 rfl rfl dX4_pass_5 rfl ?_
  refine r_callVv (As := [_]) c_X0_note (by first | assumption | rfl) l_X4_45 rfl rfl rfl (Nat.le_of_ble_eq_true rfl) dX4_pass_8 (t_X0_note hH hW hS) (fun u8 q8 => ?_)
  obtain ⟨-, g1, f1⟩ := q8
  refine r_aload_n dX4_pass_11 0 rfl ?_
  refine r_aload_n dX4_pass_12 0 rfl ?_
  refine r_iload_n dX4_pass_13 1 rfl ?_
  refine r_callVi (As := [_]) c_X4_passMinutes (by first | assumption | rfl) l_X4_89 rfl rfl rfl (Nat.le_of_ble_eq_true rfl) dX4_pass_14 (t_X4_passMinutes hW (hS.fh hW.cn.2 f1)) (fun r14 u14 q14 => ?_)
  obtain ⟨e2, g2, f2⟩ := q14
  cases e2
  refine r_callVi (As := [_]) c_X4_recorded (by first | assumption | rfl) l_X4_53 rfl rfl rfl (Nat.le_of_ble_eq_true rfl) dX4_pass_17 (t_X4_recorded (g1.fs f2)) (fun r17 u17 q17 => ?_)
  obtain ⟨e3, g3, f3⟩ := q17
  cases e3
  refine r_iret rfl dX4_pass_20 ?_
  exact ⟨rfl, g2.fh (wn_pas hW t).cn.2 f3, g3, fun b hb => (f3 b (by omega)).trans ((f2 b (by omega)).trans (f1 b (by omega)))⟩
theorem t_X4_find (hW : WN N) (hS : SP S 1 N) (hH : HP S n h) : Call G (d + 7) M_X4_find [rv G 0, .int t, .int k] S (fun v u => v = some (finO N t k).1 ∧ SP u 1 (finO N t k).2 ∧ HP u (rcN (finO N t k).1 n) (rcH (finO N t k).1 n h N) ∧ FC S u) := by
  refine call_of (lo := [(0, rv G 0), (1, .int t), (2, .int k)]) (by decide +kernel) (Nat.le_of_ble_eq_true rfl) rfl ?_
  unfold finO
  rcases sc_cases hW t k with g | ⟨T, K, g, -, rfl, hT, hT5, eT, rfl, hK, hK16, eK⟩
  · rw [g, if_neg (show ¬ false = true by decide)]
    refine r_aload_n dX4_find_0 0 rfl ?_
    refine r_iload_n dX4_find_1 1 rfl ?_
    refine r_iload_n dX4_find_2 2 rfl ?_
    refine r_callViF (As := [_, _]) c_X4_isScout (by first | assumption | rfl) l_X4_71 rfl rfl rfl (Nat.le_of_ble_eq_true rfl) dX4_find_3 (t_X4_isScout hW hS) ?_
    refine r_if_ne dX4_find_6 (tgt := 11) (by decide) (fun h6 => ?_) (fun h6 => ?_)
    · --t
      exact absurd (bI_not g) h6
    · --f
      refine r_iconst dX4_find_9 (v := -1) rfl ?_
      refine r_iret rfl dX4_find_10 ?_
      exact ⟨rfl, hS, hH, fun _ _ => rfl⟩
  · have ha := kd4 hT5
    obtain ⟨k1, k2, l1, l2, f1', f2'⟩ := kdT ha
    have hl : T < ln 3 := hT5
    have hl1 : K < ln (4 + 3 * T + 1) := by rw [l1]; exact hK16
    have hTT : TP S (4 + 3 * T) (N.2 T) := hS.2 T hT
    have hWT := hW.2 T hT
    rw [g, if_pos rfl, eT, eK]
    by_cases h4 : (N.2 T).2.1 K = 4
    · rw [if_pos h4]
      refine r_aload_n dX4_find_0 0 rfl ?_
      refine r_iload_n dX4_find_1 1 rfl ?_
      refine r_iload_n dX4_find_2 2 rfl ?_
      refine r_callViF (As := [_, _]) c_X4_isScout (by first | assumption | rfl) l_X4_71 rfl rfl rfl (Nat.le_of_ble_eq_true rfl) dX4_find_3 (t_X4_isScout hW hS) ?_
      refine r_if_ne dX4_find_6 (tgt := 11) (by decide) (fun h6 => ?_) (fun h6 => ?_)
      · --t
        refine r_aload_n dX4_find_11 0 rfl ?_
        refine r_getR (b := 1) (by first | assumption | rfl) f_X4_10 rfl rfl dX4_find_12 rfl ?_
        refine r_getR (b := 3) (by first | assumption | rfl) f_X4_75 rfl rfl dX4_find_15 rfl ?_
        refine r_iload_n dX4_find_18 1 rfl ?_
        refine r_aald10 (j := _) (by first | assumption | rfl) (by first | assumption | rfl) (by first | assumption | decide) (rf3 _) dX4_find_19 ?_
        refine r_astore_n (lo2 := [(0, _), (1, _), (2, _), (3, _)]) dX4_find_20 rfl (Nat.le_of_ble_eq_true rfl) [1, 2, 3, 0] rfl ?_
        refine r_aload_n dX4_find_21 3 rfl ?_
        refine r_iload_n dX4_find_22 2 rfl ?_
        refine r_callViF (As := [_]) c_X3_howIs (by first | assumption | rfl) l_X4_79 rfl rfl rfl (Nat.le_of_ble_eq_true rfl) dX4_find_23 (t_X3_howIs ha hK16 hTT hWT) ?_
        refine r_iconst dX4_find_26 (v := 4) rfl ?_
        refine r_icmp_eq dX4_find_27 (tgt := 33) (by decide) (fun h27 => ?_) (fun h27 => ?_)
        · --t
          refine r_aload_n dX4_find_33 0 rfl ?_
          refine r_getR (b := 19) (by first | assumption | rfl) f_X4_19 rfl rfl dX4_find_34 rfl ?_
          refine r_aload_n dX4_find_37 0 rfl ?_
          refine r_getR (b := 1) (by first | assumption | rfl) f_X4_10 rfl rfl dX4_find_38 rfl ?_
          refine r_callVv (As := [_]) c_X0_note (by first | assumption | rfl) l_X4_45 rfl rfl rfl (Nat.le_of_ble_eq_true rfl) dX4_find_41 (t_X0_note hH hW hS) (fun u41 q41 => ?_)
          obtain ⟨-, g1, f1⟩ := q41
          have hS1 := hS.fh hW.cn.2 f1
          have hTT1 : TP u41 (4 + 3 * T) (N.2 T) := hS1.2 T hT
          refine r_aload_n dX4_find_44 3 rfl ?_
          refine r_getR (by first | assumption | rfl) f_X4_82 rfl rfl dX4_find_45 (by first | assumption | rfl) ?_
          refine r_iload_n dX4_find_48 2 rfl ?_
          refine r_iald (j := _) (by first | assumption | rfl) (by first | assumption | rfl) (by first | assumption | decide) dX4_find_49 ?_
          refine r_istore (lo2 := [(0, _), (1, _), (2, _), (3, _), (4, _)]) dX4_find_50 (Nat.le_of_ble_eq_true rfl) [1, 2, 3, 4, 0] rfl ?_
          refine r_aload_n dX4_find_52 3 rfl ?_
          refine r_iload_n dX4_find_53 2 rfl ?_
          refine r_callVv (As := [_]) c_X3_bringHome (by first | assumption | rfl) l_X4_85 rfl rfl rfl (Nat.le_of_ble_eq_true rfl) dX4_find_54 (t_X3_bringHome ha hK16 hTT1) (fun u54 q54 => ?_)
          obtain ⟨-, g2, f2⟩ := q54
          refine r_aload_n dX4_find_57 0 rfl ?_
          refine r_iload dX4_find_58 4 rfl ?_
          refine r_callVi (As := [_]) c_X4_recorded (by first | assumption | rfl) l_X4_53 rfl rfl rfl (Nat.le_of_ble_eq_true rfl) dX4_find_60 (t_X4_recorded (g1.fs (fs_fr f2 hT5))) (fun r60 u60 q60 => ?_)
          obtain ⟨e3, g3, f3⟩ := q60
          cases e3
          refine r_iret rfl dX4_find_63 ?_
          have e1 : u41 (4 + 3 * T + 1) K = (N.2 T).2.2.1 K := (hTT1.2.2 K hK16).1
          rw [e1] at g3 ⊢
          have z := hS1.tr hT hW.cn.2 g2 f2
          exact ⟨rfl, z.fh hW.cn.2 f3, g3, fun b hb => (f3 b (by omega)).trans ((fs_fr f2 hT5 b (by omega)).trans (f1 b (by omega)))⟩
        · --f
          exact absurd h4 h27
      · --f
        exact absurd (bI_yes g) (by rw [h6]; decide)
    · rw [if_neg h4]
      refine r_aload_n dX4_find_0 0 rfl ?_
      refine r_iload_n dX4_find_1 1 rfl ?_
      refine r_iload_n dX4_find_2 2 rfl ?_
      refine r_callViF (As := [_, _]) c_X4_isScout (by first | assumption | rfl) l_X4_71 rfl rfl rfl (Nat.le_of_ble_eq_true rfl) dX4_find_3 (t_X4_isScout hW hS) ?_
      refine r_if_ne dX4_find_6 (tgt := 11) (by decide) (fun h6 => ?_) (fun h6 => ?_)
      · --t
        refine r_aload_n dX4_find_11 0 rfl ?_
        refine r_getR (b := 1) (by first | assumption | rfl) f_X4_10 rfl rfl dX4_find_12 rfl ?_
        refine r_getR (b := 3) (by first | assumption | rfl) f_X4_75 rfl rfl dX4_find_15 rfl ?_
        refine r_iload_n dX4_find_18 1 rfl ?_
        refine r_aald10 (j := _) (by first | assumption | rfl) (by first | assumption | rfl) (by first | assumption | decide) (rf3 _) dX4_find_19 ?_
        refine r_astore_n (lo2 := [(0, _), (1, _), (2, _), (3, _)]) dX4_find_20 rfl (Nat.le_of_ble_eq_true rfl) [1, 2, 3, 0] rfl ?_
        refine r_aload_n dX4_find_21 3 rfl ?_
        refine r_iload_n dX4_find_22 2 rfl ?_
        refine r_callViF (As := [_]) c_X3_howIs (by first | assumption | rfl) l_X4_79 rfl rfl rfl (Nat.le_of_ble_eq_true rfl) dX4_find_23 (t_X3_howIs ha hK16 hTT hWT) ?_
        refine r_iconst dX4_find_26 (v := 4) rfl ?_
        refine r_icmp_eq dX4_find_27 (tgt := 33) (by decide) (fun h27 => ?_) (fun h27 => ?_)
        · --t
          exact absurd h27 h4
        · --f
          refine r_bipush dX4_find_30 (v := -5) (by decide +kernel) ?_
          refine r_iret rfl dX4_find_32 ?_
          exact ⟨rfl, hS, hH, fun _ _ => rfl⟩
      · --f
        exact absurd (bI_yes g) (by rw [h6]; decide)
end PUB
