/-! the class's Troop: what changes it -/
theorem bI_n0 (b : Bool) : bI b ≠ 0 ↔ b = true := by cases b <;> decide
theorem ap1 (a : Nat) : (a = a + 1) = False := by simp
theorem ap2 (a : Nat) : (a = a + 2) = False := by simp
theorem ap3 (a : Nat) : (a + 1 = a) = False := by simp
theorem ap4 (a : Nat) : (a + 2 = a) = False := by simp
theorem ap5 (a : Nat) : (a + 1 = a + 2) = False := by simp
theorem ap6 (a : Nat) : (a + 2 = a + 1) = False := by simp
def FR (a : Nat) (S u : mS) : Prop := ∀ b, b ≠ a → b ≠ a + 1 → b ≠ a + 2 → u b = S b
theorem FR.rf {a : Nat} {S : mS} : FR a S S := fun _ _ _ _ => rfl
theorem FR.tr {a : Nat} {S u w : mS} (h : FR a S u) (h2 : FR a u w) : FR a S w := fun b h1 h3 h4 => (h2 b h1 h3 h4).trans (h b h1 h3 h4)
theorem FR.up0 {a : Nat} {S u : mS} {f : Nat → Int32} (h : FR a S u) : FR a S (up1 u a f) := fun b h1 h2 h3 => (up1_n h1).trans (h b h1 h2 h3)
theorem FR.up1' {a : Nat} {S u : mS} {f : Nat → Int32} (h : FR a S u) : FR a S (up1 u (a + 1) f) := fun b h1 h2 h3 => (up1_n h2).trans (h b h1 h2 h3)
theorem FR.up2 {a : Nat} {S u : mS} {f : Nat → Int32} (h : FR a S u) : FR a S (up1 u (a + 2) f) := fun b h1 h2 h3 => (up1_n h3).trans (h b h1 h2 h3)
def hmk (hw : Nat → Int32) (h : Int32) : Int32 := mkm (fun k => hw k == h) 16
theorem hm_hmk (T : mT) (h : Int32) : hm T h = hmk T.2.1 h := rfl
theorem hmk_in (hw : Nat → Int32) (h : Int32) {k : Nat} (hk : k < 16) : hmk hw h ||| ((1 : Int32) <<< (nI k &&& 31)) = hmk (upd hw k h) h := by
  refine mkm_eq (fun i hi => ?_) (fun i h1 h2 => ?_)
  · rw [b_or, hmk, mkm_bt _ i hi, bt_one k (by omega) i (by omega)]
    by_cases e : i = k
    · subst e; simp [upd]
    · simp [upd, e]
  · rw [b_or, hmk, mkm_hi _ i h1 h2, bt_one k (by omega) i h2]
    have : ¬ i = k := by omega
    simp [this]
theorem hmk_out (hw : Nat → Int32) {h x : Int32} {k : Nat} (hx : x ≠ h) (hk : k < 16) : hmk hw h &&& (((1 : Int32) <<< (nI k &&& 31)) ^^^ (-1)) = hmk (upd hw k x) h := by
  refine mkm_eq (fun i hi => ?_) (fun i h1 h2 => ?_)
  · rw [b_and, hmk, mkm_bt _ i hi, bt_not _ (by omega), bt_one k (by omega) i (by omega)]
    by_cases e : i = k
    · subst e; simp [upd, hx]
    · simp [upd, e]
  · rw [b_and, hmk, mkm_hi _ i h1 h2]; rfl
theorem hmk_no {hw : Nat → Int32} {h x : Int32} {k : Nat} (h1 : hw k ≠ h) (hx : x ≠ h) : hmk (upd hw k x) h = hmk hw h := by
  refine mkm_congr 16 fun i hi => ?_
  by_cases e : i = k
  · subst e
    show (upd hw i x i == h) = _
    rw [show upd hw i x i = x by simp [upd], beq_eq_false_iff_ne.mpr hx, beq_eq_false_iff_ne.mpr h1]
  · simp [upd, e]
/-- two troops that agree where a troop is -/
def TE (T T' : mT) : Prop := (∀ j, j < 6 → T.1 j = T'.1 j) ∧ ∀ k, k < 16 → T.2.1 k = T'.2.1 k ∧ T.2.2.1 k = T'.2.2.1 k ∧ T.2.2.2 k = T'.2.2.2 k
theorem TE.hm {T T' : mT} (h : TE T T') (x : Int32) : hm T x = hm T' x := mkm_congr 16 fun k hk => by rw [(h.2 k hk).1]
theorem TP.te {S : mS} {a : Nat} {T T' : mT} (h : TP S a T) (e : TE T T') : TP S a T' := by
  obtain ⟨⟨a1, a2, a3, a4, a5, a6⟩, ⟨b1, b2, b3, b4⟩, c⟩ := h
  refine ⟨⟨a1.trans (e.1 0 (by omega)), a2.trans (e.1 2 (by omega)), a3.trans (e.1 1 (by omega)), a4.trans (e.1 5 (by omega)), a5.trans (e.1 3 (by omega)), a6.trans (e.1 4 (by omega))⟩, ⟨b1.trans (e.hm 1), b2.trans (e.hm 2), b3.trans (e.hm 3), b4.trans (e.hm 4)⟩, fun k hk => ?_⟩
  exact ⟨(c k hk).1.trans (e.2 k hk).2.1, (c k hk).2.trans (e.2 k hk).2.2⟩
theorem set_set (T : mT) {j : Nat} {h x : Int32} (hx : x ≠ h ∧ 0 ≠ h) (hj : j < 16) : hm (setH T j 0) h = hm (setH T j x) h := by
  show hmk (upd T.2.1 j 0) h = hmk (upd T.2.1 j x) h
  rw [← hmk_out T.2.1 hx.2 hj, ← hmk_out T.2.1 hx.1 hj]
theorem upd_upd (f : Nat → Int32) (k : Nat) (x y : Int32) : upd (upd f k x) k y = upd f k y := by funext j; simp only [upd]; split <;> rfl
theorem set_in (T : mT) {j : Nat} {h : Int32} (hj : j < 16) : hm (setH T j 0) h ||| ((1 : Int32) <<< (nI j &&& 31)) = hm (setH T j h) h := by
  show hmk (upd T.2.1 j 0) h ||| _ = hmk (upd T.2.1 j h) h
  rw [hmk_in _ h hj, upd_upd]
theorem t_X3_bringHome {G : mG} {d : Nat} {S : mS} {a j : Nat} {T : mT} (ha : kd a = 3) (hj : j < 16) (hT : TP S a T) : Call G d M_X3_bringHome [rv G a, .int (nI j)] S (fun v u => v = none ∧ TP u a (setH T j 0) ∧ FR a S u) := by
  refine call_of (lo := [(0, rv G a), (1, .int (nI j))]) (by decide +kernel) (Nat.le_of_ble_eq_true rfl) rfl ?_
  obtain ⟨k1, k2, l1, l2, f1, f2⟩ := kdT ha
  obtain ⟨⟨a1, a2, a3, a4, a5, a6⟩, ⟨b1, b2, b3, b4⟩, c⟩ := hT
  refine r_aload_n dX3_bringHome_0 0 rfl ?_
  refine r_dup dX3_bringHome_1 rfl ?_
  refine r_getI (by first | assumption | rfl) f_X3_28 rfl rfl dX3_bringHome_2 ?_
  refine r_iconst dX3_bringHome_5 (v := 1) rfl ?_
  refine r_iload_n dX3_bringHome_6 1 rfl ?_
  refine r_ishl dX3_bringHome_7 ?_
  refine r_iconst dX3_bringHome_8 (v := -1) rfl ?_
  refine r_ixor dX3_bringHome_9 ?_
  refine r_iand dX3_bringHome_10 ?_
  refine r_putI (by first | assumption | rfl) f_X3_28 rfl rfl rfl rfl dX3_bringHome_11 ?_
  refine r_aload_n dX3_bringHome_14 0 rfl ?_
  refine r_dup dX3_bringHome_15 rfl ?_
  refine r_getI (by first | assumption | rfl) f_X3_31 rfl rfl dX3_bringHome_16 ?_
  refine r_iconst dX3_bringHome_19 (v := 1) rfl ?_
  refine r_iload_n dX3_bringHome_20 1 rfl ?_
  refine r_ishl dX3_bringHome_21 ?_
  refine r_iconst dX3_bringHome_22 (v := -1) rfl ?_
  refine r_ixor dX3_bringHome_23 ?_
  refine r_iand dX3_bringHome_24 ?_
  refine r_putI (by first | assumption | rfl) f_X3_31 rfl rfl rfl rfl dX3_bringHome_25 ?_
  refine r_aload_n dX3_bringHome_28 0 rfl ?_
  refine r_dup dX3_bringHome_29 rfl ?_
  refine r_getI (by first | assumption | rfl) f_X3_34 rfl rfl dX3_bringHome_30 ?_
  refine r_iconst dX3_bringHome_33 (v := 1) rfl ?_
  refine r_iload_n dX3_bringHome_34 1 rfl ?_
  refine r_ishl dX3_bringHome_35 ?_
  refine r_iconst dX3_bringHome_36 (v := -1) rfl ?_
  refine r_ixor dX3_bringHome_37 ?_
  refine r_iand dX3_bringHome_38 ?_
  refine r_putI (by first | assumption | rfl) f_X3_34 rfl rfl rfl rfl dX3_bringHome_39 ?_
  refine r_aload_n dX3_bringHome_42 0 rfl ?_
  refine r_dup dX3_bringHome_43 rfl ?_
  refine r_getI (by first | assumption | rfl) f_X3_37 rfl rfl dX3_bringHome_44 ?_
  refine r_iconst dX3_bringHome_47 (v := 1) rfl ?_
  refine r_iload_n dX3_bringHome_48 1 rfl ?_
  refine r_ishl dX3_bringHome_49 ?_
  refine r_iconst dX3_bringHome_50 (v := -1) rfl ?_
  refine r_ixor dX3_bringHome_51 ?_
  refine r_iand dX3_bringHome_52 ?_
  refine r_putI (by first | assumption | rfl) f_X3_37 rfl rfl rfl rfl dX3_bringHome_53 ?_
  refine r_aload_n dX3_bringHome_56 0 rfl ?_
  refine r_getR (by first | assumption | rfl) f_X3_9 rfl rfl dX3_bringHome_57 (by first | assumption | rfl) ?_
  refine r_iload_n dX3_bringHome_60 1 rfl ?_
  refine r_iconst dX3_bringHome_61 (v := 0) rfl ?_
  refine r_iast (j := _) (by first | assumption | rfl) (by first | assumption | rfl) (by rw [l1]; exact hj) dX3_bringHome_62 ?_
  refine r_vret rfl dX3_bringHome_63 ?_
  refine ⟨rfl, ⟨⟨?_, ?_, ?_, ?_, ?_, ?_⟩, ⟨?_, ?_, ?_, ?_⟩, fun i hi => ⟨?_, ?_⟩⟩, (((((FR.rf).up0).up0).up0).up0).up1'⟩
  · simp only [up1, upd, ap1, ap2, reduceIte]; exact a1
  · simp only [up1, upd, ap1, ap2, reduceIte]; exact a2
  · simp only [up1, upd, ap1, ap2, reduceIte]; exact a3
  · simp only [up1, upd, ap1, ap2, reduceIte]; exact a4
  · simp only [up1, upd, ap1, ap2, reduceIte]; exact a5
  · simp only [up1, upd, ap1, ap2, reduceIte]; exact a6
  · simp only [up1, upd, ap1, ap2, reduceIte]; rw [b1]; exact hmk_out T.2.1 (by decide) hj
  · simp only [up1, upd, ap1, ap2, reduceIte]; rw [b2]; exact hmk_out T.2.1 (by decide) hj
  · simp only [up1, upd, ap1, ap2, reduceIte]; rw [b3]; exact hmk_out T.2.1 (by decide) hj
  · simp only [up1, upd, ap1, ap2, reduceIte]; rw [b4]; exact hmk_out T.2.1 (by decide) hj
  · simp only [up1, upd, setH, ap3, reduceIte, (c i hi).1]
  · simp only [up1, upd, setH, ap4, ap6, reduceIte, (c i hi).2]
theorem t_X3_missScout {G : mG} {d : Nat} {S : mS} {a j : Nat} {T : mT} (ha : kd a = 3) (hj : j < 16) (hT : TP S a T) : Call G (d + 1) M_X3_missScout [rv G a, .int (nI j)] S (fun v u => v = none ∧ TP u a (setH T j 4) ∧ FR a S u) := by
  refine call_of (lo := [(0, rv G a), (1, .int (nI j))]) (by decide +kernel) (Nat.le_of_ble_eq_true rfl) rfl ?_
  obtain ⟨k1, k2, l1, l2, f1, f2⟩ := kdT ha
  refine r_aload_n dX3_missScout_0 0 rfl ?_
  refine r_iload_n dX3_missScout_1 1 rfl ?_
  refine r_callVv (As := [_]) c_X3_bringHome (by first | assumption | rfl) l_X3_76 rfl rfl rfl (Nat.le_of_ble_eq_true rfl) dX3_missScout_2 (t_X3_bringHome ha hj hT) (fun u2 q2 => ?_)
  obtain ⟨-, hT1, hF1⟩ := q2
  obtain ⟨⟨a1, a2, a3, a4, a5, a6⟩, ⟨b1, b2, b3, b4⟩, c⟩ := hT1
  refine r_aload_n dX3_missScout_5 0 rfl ?_
  refine r_dup dX3_missScout_6 rfl ?_
  refine r_getI (by first | assumption | rfl) f_X3_37 rfl rfl dX3_missScout_7 ?_
  refine r_iconst dX3_missScout_10 (v := 1) rfl ?_
  refine r_iload_n dX3_missScout_11 1 rfl ?_
  refine r_ishl dX3_missScout_12 ?_
  refine r_ior dX3_missScout_13 ?_
  refine r_putI (by first | assumption | rfl) f_X3_37 rfl rfl rfl rfl dX3_missScout_14 ?_
  refine r_vret rfl dX3_missScout_17 ?_
  refine ⟨rfl, ⟨⟨?_, ?_, ?_, ?_, ?_, ?_⟩, ⟨?_, ?_, ?_, ?_⟩, fun i hi => ⟨?_, ?_⟩⟩, hF1.up0⟩
  · simp only [up1, upd, reduceIte]; exact a1
  · simp only [up1, upd, reduceIte]; exact a2
  · simp only [up1, upd, reduceIte]; exact a3
  · simp only [up1, upd, reduceIte]; exact a4
  · simp only [up1, upd, reduceIte]; exact a5
  · simp only [up1, upd, reduceIte]; exact a6
  · simp only [up1, upd, reduceIte]; rw [b1]; exact set_set T (by decide) hj
  · simp only [up1, upd, reduceIte]; rw [b2]; exact set_set T (by decide) hj
  · simp only [up1, upd, reduceIte]; rw [b3]; exact set_set T (by decide) hj
  · simp only [up1, upd, reduceIte]; rw [b4]; exact set_in T hj
  · simp only [up1, ap3, reduceIte]; exact (c i hi).1
  · simp only [up1, ap4, reduceIte]; exact (c i hi).2

theorem TP.fr {S : mS} {a j : Nat} {T : mT} (x : Int32) (h : TP S a T) : TP (up1 S (a + 1) (upd (S (a + 1)) j x)) a (T.1, T.2.1, upd T.2.2.1 j x, T.2.2.2) := by
  obtain ⟨⟨a1, a2, a3, a4, a5, a6⟩, ⟨b1, b2, b3, b4⟩, c⟩ := h
  refine ⟨?_, ?_, fun i hi => ⟨?_, ?_⟩⟩
  · simp only [up1, ap1, reduceIte]; exact ⟨a1, a2, a3, a4, a5, a6⟩
  · simp only [up1, ap1, reduceIte]; exact ⟨b1, b2, b3, b4⟩
  · simp only [up1, reduceIte, upd, (c i hi).1]
  · simp only [up1, ap6, reduceIte]; exact (c i hi).2
theorem TP.tm {S : mS} {a j : Nat} {T : mT} (x : Int32) (h : TP S a T) : TP (up1 S (a + 2) (upd (S (a + 2)) j x)) a (T.1, T.2.1, T.2.2.1, upd T.2.2.2 j x) := by
  obtain ⟨⟨a1, a2, a3, a4, a5, a6⟩, ⟨b1, b2, b3, b4⟩, c⟩ := h
  refine ⟨?_, ?_, fun i hi => ⟨?_, ?_⟩⟩
  · simp only [up1, ap2, reduceIte]; exact ⟨a1, a2, a3, a4, a5, a6⟩
  · simp only [up1, ap2, reduceIte]; exact ⟨b1, b2, b3, b4⟩
  · simp only [up1, ap5, reduceIte]; exact (c i hi).1
  · simp only [up1, reduceIte, upd, (c i hi).2]
theorem TP.struck {S : mS} {a : Nat} {T : mT} (x : Int32) (h : TP S a T) : TP (up1 S a (upd (S a) 7 x)) a (upd T.1 5 x, T.2) := by
  obtain ⟨⟨a1, a2, a3, a4, a5, a6⟩, ⟨b1, b2, b3, b4⟩, c⟩ := h
  refine ⟨?_, ?_, fun i hi => ⟨?_, ?_⟩⟩
  · simp only [up1, upd, reduceIte, Nat.reduceEqDiff]; exact ⟨a1, a2, a3, trivial, a5, a6⟩
  · simp only [up1, upd, reduceIte, Nat.reduceEqDiff]; exact ⟨b1, b2, b3, b4⟩
  · simp only [up1, ap3, reduceIte]; exact (c i hi).1
  · simp only [up1, ap4, reduceIte]; exact (c i hi).2
def wk1 (T : mT) (j : Nat) : mT := if T.2.2.1 j - 1 ≤ 0 then (T.1, upd T.2.1 j 0, upd T.2.2.1 j 0, if j < tsz T then T.2.2.2 else upd T.2.2.2 j 0) else (T.1, T.2.1, upd T.2.2.1 j (T.2.2.1 j - 1), T.2.2.2)
theorem sz_lt {T : mT} (hW : WF T) {j : Nat} (hj : j < 16) : (0 ≤ nI j ∧ nI j < T.1 0) ↔ j < tsz T := by
  obtain ⟨s, hs, hs2, hs3, hs4⟩ := hW.sz
  rw [hs, hs2, nI_ltI (by omega) (by omega)]
  exact ⟨fun h => h.2, fun h => ⟨nI_pos' (by omega), h⟩⟩
theorem t_X3_walkOn {G : mG} {d : Nat} {S : mS} {a j : Nat} {T : mT} (ha : kd a = 3) (hj : j < 16) (hT : TP S a T) (hW : WF T) : Call G (d + 1) M_X3_walkOn [rv G a, .int (nI j)] S (fun v u => v = none ∧ TP u a (wk1 T j) ∧ FR a S u) := by
  refine call_of (lo := [(0, rv G a), (1, .int (nI j))]) (by decide +kernel) (Nat.le_of_ble_eq_true rfl) rfl ?_
  obtain ⟨k1, k2, l1, l2, f1, f2⟩ := kdT ha
  have hl1 : j < ln (a + 1) := by rw [l1]; exact hj
  have hl2 : j < ln (a + 2) := by rw [l2]; exact hj
  have e0 := (hT.2.2 j hj).1
  have hT1 := hT.fr (j := j) (S (a + 1) j - 1)
  have e1 : up1 S (a + 1) (upd (S (a + 1)) j (S (a + 1) j - 1)) (a + 1) j = T.2.2.1 j - 1 := by simp only [up1, upd, reduceIte, e0]
  have hF1 : FR a S (up1 S (a + 1) (upd (S (a + 1)) j (S (a + 1) j - 1))) := (FR.rf).up1'
  refine r_aload_n dX3_walkOn_0 0 rfl ?_
  refine r_getR (by first | assumption | rfl) f_X3_9 rfl rfl dX3_walkOn_1 (by first | assumption | rfl) ?_
  refine r_iload_n dX3_walkOn_4 1 rfl ?_
  refine r_dup2 dX3_walkOn_5 rfl rfl ?_
  refine r_iald (j := _) (by first | assumption | rfl) (by first | assumption | rfl) (by first | assumption | decide) dX3_walkOn_6 ?_
  refine r_iconst dX3_walkOn_7 (v := 1) rfl ?_
  refine r_isub dX3_walkOn_8 ?_
  refine r_iast (j := _) (by first | assumption | rfl) (by first | assumption | rfl) (by first | assumption | decide) dX3_walkOn_9 ?_
  generalize up1 S (a + 1) (upd (S (a + 1)) j (S (a + 1) j - 1)) = S1 at hT1 e1 hF1 ⊢
  refine r_aload_n dX3_walkOn_10 0 rfl ?_
  refine r_getR (by first | assumption | rfl) f_X3_9 rfl rfl dX3_walkOn_11 (by first | assumption | rfl) ?_
  refine r_iload_n dX3_walkOn_14 1 rfl ?_
  refine r_iald (j := _) (by first | assumption | rfl) (by first | assumption | rfl) (by first | assumption | decide) dX3_walkOn_15 ?_
  refine r_if_gt dX3_walkOn_16 (tgt := 39) (by decide) (fun h16 => ?_) (fun h16 => ?_)
  · --t
    rw [e1] at h16
    refine r_vret rfl dX3_walkOn_39 ⟨rfl, ?_, hF1⟩
    unfold wk1
    rw [if_neg (Int32.not_le.mpr h16)]
    exact hT1.te ⟨fun _ _ => rfl, fun i hi => ⟨rfl, by simp only [e0], rfl⟩⟩
  · --f
    rw [e1] at h16
    refine r_aload_n dX3_walkOn_19 0 rfl ?_
    refine r_iload_n dX3_walkOn_20 1 rfl ?_
    refine r_callVv (As := [_]) c_X3_bringHome (by first | assumption | rfl) l_X3_76 rfl rfl rfl (Nat.le_of_ble_eq_true rfl) dX3_walkOn_21 (t_X3_bringHome ha hj hT1) (fun u21 q21 => ?_)
    obtain ⟨-, hT2, hF2⟩ := q21
    refine r_aload_n dX3_walkOn_24 0 rfl ?_
    refine r_iload_n dX3_walkOn_25 1 rfl ?_
    refine r_callViF (As := [_]) c_X3_hasScout (by first | assumption | rfl) l_X3_55 rfl rfl rfl (Nat.le_of_ble_eq_true rfl) dX3_walkOn_26 (t_X3_hasScout ha) ?_
    refine r_if_ne dX3_walkOn_29 (tgt := 39) (by decide) (fun h29 => ?_) (fun h29 => ?_)
    · --t
      refine r_vret rfl dX3_walkOn_39 ⟨rfl, ?_, hF1.tr hF2⟩
      rw [bI_n0, decide_eq_true_iff, hT2.1.1] at h29
      unfold wk1
      rw [if_pos (Int32.not_lt.mp h16), if_pos ((sz_lt hW hj).mp h29)]
      exact hT2.te ⟨fun _ _ => rfl, fun i hi => ⟨rfl, by simp only [setH, upd_upd], rfl⟩⟩
    · --f
      refine r_aload_n dX3_walkOn_32 0 rfl ?_
      refine r_getR (by first | assumption | rfl) f_X3_15 rfl rfl dX3_walkOn_33 (by first | assumption | rfl) ?_
      refine r_iload_n dX3_walkOn_36 1 rfl ?_
      refine r_iconst dX3_walkOn_37 (v := 0) rfl ?_
      refine r_iast (j := _) (by first | assumption | rfl) (by first | assumption | rfl) (by first | assumption | decide) dX3_walkOn_38 ?_
      skip
      refine r_vret rfl dX3_walkOn_39 ?_
      rw [bI_0, decide_eq_false_iff_not, hT2.1.1] at h29
      refine ⟨rfl, ?_, (hF1.tr hF2).up2⟩
      unfold wk1
      rw [if_pos (Int32.not_lt.mp h16), if_neg (fun z => h29 ((sz_lt hW hj).mpr z))]
      exact (hT2.tm 0).te ⟨fun _ _ => rfl, fun i hi => ⟨rfl, by simp only [setH, upd_upd], rfl⟩⟩
theorem TE.rf {T : mT} : TE T T := ⟨fun _ _ => rfl, fun _ _ => ⟨rfl, rfl, rfl⟩⟩
theorem wlk_hw {T : mT} {pat : Int32} {k : Nat} : (wlkT T pat k).2.1 k = T.2.1 k := by simp [wlkT]
theorem wlk_fr {T : mT} {pat : Int32} {k : Nat} : (wlkT T pat k).2.2.1 k = T.2.2.1 k := by simp [wlkT]
theorem wlk_sz {T : mT} {pat : Int32} {k : Nat} : tsz (wlkT T pat k) = tsz T := by simp [wlkT, tsz]
theorem wlk_0 {T : mT} {pat : Int32} : TE T (wlkT T pat 0) := by
  refine ⟨fun j _ => ?_, fun k _ => ⟨?_, ?_, ?_⟩⟩
  · simp only [wlkT, mkm, Int32.or_zero]; split <;> simp_all
  · simp [wlkT]
  · simp [wlkT]
  · simp [wlkT]
theorem wlk_3 {T : mT} {pat : Int32} {k : Nat} (h : T.2.1 k = 3) : TE (wk1 (wlkT T pat k) k) (wlkT T pat (k + 1)) := by
  have h4 : ¬ T.2.1 k = 4 := by rw [h]; decide
  unfold wk1
  rw [wlk_fr, wlk_sz]
  by_cases h2 : T.2.2.1 k - 1 ≤ 0
  · rw [if_pos h2]
    refine ⟨fun j _ => ?_, fun i hi => ⟨?_, ?_, ?_⟩⟩
    · simp [wlkT, mkm, h4]
    · simp only [wlkT, upd]
      by_cases e : i = k
      · subst e; simp [h, h2]
      · have : i < k + 1 ↔ i < k := by omega
        simp [e, this]
    · simp only [wlkT, upd]
      by_cases e : i = k
      · subst e; simp [h, h2]
      · have : i < k + 1 ↔ i < k := by omega
        simp [e, this]
    · by_cases e : i = k
      · subst e
        by_cases h5 : i < tsz T
        · simp [wlkT, upd, h, h2, h5]
          intro z; omega
        · simp [wlkT, upd, h, h2, h5]
      · have : i < k + 1 ↔ i < k := by omega
        by_cases h5 : k < tsz T
        · simp [wlkT, upd, e, this, h5]
        · simp [wlkT, upd, e, this, h5]
  · rw [if_neg h2]
    refine ⟨fun j _ => ?_, fun i hi => ⟨?_, ?_, ?_⟩⟩
    · simp [wlkT, mkm, h4]
    · simp only [wlkT]
      by_cases e : i = k
      · subst e; simp [h2]
      · have : i < k + 1 ↔ i < k := by omega
        simp [this]
    · simp only [wlkT, upd]
      by_cases e : i = k
      · subst e; simp [h, h2]
      · have : i < k + 1 ↔ i < k := by omega
        simp [e, this]
    · simp only [wlkT]
      by_cases e : i = k
      · subst e; simp [h2]
      · have : i < k + 1 ↔ i < k := by omega
        simp [this]
theorem wlk_4 {T : mT} {pat : Int32} {k : Nat} (h : T.2.1 k = 4) : TE ((if pat < T.2.2.1 k + 1 then upd (wlkT T pat k).1 5 ((wlkT T pat k).1 5 ||| ((1 : Int32) <<< (nI k &&& 31))) else (wlkT T pat k).1), (wlkT T pat k).2.1, upd (wlkT T pat k).2.2.1 k (T.2.2.1 k + 1), (wlkT T pat k).2.2.2) (wlkT T pat (k + 1)) := by
  have h3 : ¬ T.2.1 k = 3 := by rw [h]; decide
  refine ⟨fun j _ => ?_, fun i hi => ⟨?_, ?_, ?_⟩⟩
  · by_cases h2 : pat < T.2.2.1 k + 1
    · by_cases e : j = 5
      · subst e; simp [wlkT, mkm, h, h2, upd, Int32.or_assoc]
      · simp [wlkT, upd, h2, e]
    · by_cases e : j = 5
      · subst e; simp [wlkT, mkm, h2]
      · simp [wlkT, h2, e]
  · simp only [wlkT]
    by_cases e : i = k
    · subst e; simp [h3]
    · have : i < k + 1 ↔ i < k := by omega
      simp [this]
  · simp only [wlkT, upd]
    by_cases e : i = k
    · subst e; simp [h]
    · have : i < k + 1 ↔ i < k := by omega
      simp [e, this]
  · simp only [wlkT]
    by_cases e : i = k
    · subst e; simp [h3]
    · have : i < k + 1 ↔ i < k := by omega
      simp [this]
theorem wlk_n {T : mT} {pat : Int32} {k : Nat} (h3 : ¬ T.2.1 k = 3) (h4 : ¬ T.2.1 k = 4) : TE (wlkT T pat k) (wlkT T pat (k + 1)) := by
  refine ⟨fun j _ => ?_, fun i hi => ⟨?_, ?_, ?_⟩⟩
  · simp [wlkT, mkm, h4]
  · simp only [wlkT]
    by_cases e : i = k
    · subst e; simp [h3]
    · have : i < k + 1 ↔ i < k := by omega
      simp [this]
  · simp only [wlkT]
    by_cases e : i = k
    · subst e; simp [h3, h4]
    · have : i < k + 1 ↔ i < k := by omega
      simp [this]
  · simp only [wlkT]
    by_cases e : i = k
    · subst e; simp [h3]
    · have : i < k + 1 ↔ i < k := by omega
      simp [this]
theorem wlk_no {T : mT} {pat : Int32} (h3 : hm T 3 = 0) (h4 : hm T 4 = 0) : ∀ n, n ≤ 16 → TE T (wlkT T pat n) := by
  have n3 : ∀ k, k < 16 → ¬ T.2.1 k = 3 := fun k hk z => by
    have := (mkm_0 _).mp h3 k hk
    simp [z] at this
  have n4 : ∀ k, k < 16 → ¬ T.2.1 k = 4 := fun k hk z => by
    have := (mkm_0 _).mp h4 k hk
    simp [z] at this
  intro n
  induction n with
  | zero => intro _; exact wlk_0
  | succ n ih =>
    intro hn
    obtain ⟨e1, e2⟩ := ih (by omega)
    obtain ⟨g1, g2⟩ := wlk_n (pat := pat) (n3 n (by omega)) (n4 n (by omega))
    exact ⟨fun j hj => (e1 j hj).trans (g1 j hj), fun k hk => ⟨(e2 k hk).1.trans (g2 k hk).1, (e2 k hk).2.1.trans (g2 k hk).2.1, (e2 k hk).2.2.trans (g2 k hk).2.2⟩⟩
