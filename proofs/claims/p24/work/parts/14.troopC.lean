/-! the class's Troop: the gate, a minute, coming, beginning, copying -/
theorem at_gen {G : mG} {d : Nat} {M : mM} {Q : Option Int32 → mS → Prop} {pc : Nat} {lo : List (Nat × Value)} {st : List Value} {S : mS} (h : ∀ w, w = S → At G d M Q pc lo st w) : At G d M Q pc lo st S := h S rfl
theorem TE.tr {T U V : mT} (h : TE T U) (g : TE U V) : TE T V := ⟨fun j hj => (h.1 j hj).trans (g.1 j hj), fun k hk => ⟨(h.2 k hk).1.trans (g.2 k hk).1, (h.2 k hk).2.1.trans (g.2 k hk).2.1, (h.2 k hk).2.2.trans (g.2 k hk).2.2⟩⟩
theorem c16 {k : Nat} (h : k < 16) : ¬ (16 : Int32) ≤ nI k := nI_ge (b := 16) h (by decide)
/-- the first loop of beginHike: those inside below n get their minutes and one hike more -/
def bg1 (T : mT) (away : Int32) (n : Nat) : mT := (T.1, T.2.1, fun k => if k < n ∧ T.2.1 k = 1 then away else T.2.2.1 k, fun k => if k < n ∧ T.2.1 k = 1 then T.2.2.2 k + 1 else T.2.2.2 k)
/-- behind the straight part -/
def bg2 (T : mT) (away : Int32) : mT := ((begT T away).1, (begT T away).2.1, (bg1 T away 16).2.2)
/-- the second loop: those below n who are none any more -/
def bg3 (T : mT) (away : Int32) (n : Nat) : mT := ((begT T away).1, (begT T away).2.1, fun k => if (T.1 2).toNatClampNeg ≤ k ∧ k < n ∧ ¬ (begT T away).2.1 k = 3 then 0 else (bg1 T away 16).2.2.1 k, fun k => if (T.1 2).toNatClampNeg ≤ k ∧ k < n ∧ ¬ (begT T away).2.1 k = 3 then 0 else (bg1 T away 16).2.2.2 k)
theorem bg1_0 {T : mT} {away : Int32} : TE T (bg1 T away 0) := ⟨fun _ _ => rfl, fun k _ => ⟨rfl, by simp [bg1], by simp [bg1]⟩⟩
theorem bg1_y {T : mT} {away : Int32} {k : Nat} (h : T.2.1 k = 1) : TE (T.1, T.2.1, upd (bg1 T away k).2.2.1 k away, upd (bg1 T away k).2.2.2 k (T.2.2.2 k + 1)) (bg1 T away (k + 1)) := by
  refine ⟨fun _ _ => rfl, fun i _ => ⟨rfl, ?_, ?_⟩⟩
  · simp only [bg1, upd]
    by_cases e : i = k
    · subst e; simp [h]
    · have : i < k + 1 ↔ i < k := by omega
      simp [e, this]
  · simp only [bg1, upd]
    by_cases e : i = k
    · subst e; simp [h]
    · have : i < k + 1 ↔ i < k := by omega
      simp [e, this]
theorem bg1_n {T : mT} {away : Int32} {k : Nat} (h : ¬ T.2.1 k = 1) : TE (bg1 T away k) (bg1 T away (k + 1)) := by
  refine ⟨fun _ _ => rfl, fun i _ => ⟨rfl, ?_, ?_⟩⟩
  · simp only [bg1]
    by_cases e : i = k
    · subst e; simp [h]
    · have : i < k + 1 ↔ i < k := by omega
      simp [this]
  · simp only [bg1]
    by_cases e : i = k
    · subst e; simp [h]
    · have : i < k + 1 ↔ i < k := by omega
      simp [this]
theorem bg3_0 {T : mT} {away : Int32} {n : Nat} (hn : n = (T.1 2).toNatClampNeg) : TE (bg2 T away) (bg3 T away n) := by
  refine ⟨fun _ _ => rfl, fun k _ => ⟨rfl, ?_, ?_⟩⟩
  · have : ¬ ((T.1 2).toNatClampNeg ≤ k ∧ k < n ∧ ¬ (begT T away).2.1 k = 3) := by omega
    simp only [bg2, bg3, if_neg this]
  · have : ¬ ((T.1 2).toNatClampNeg ≤ k ∧ k < n ∧ ¬ (begT T away).2.1 k = 3) := by omega
    simp only [bg2, bg3, if_neg this]
theorem bg3_y {T : mT} {away : Int32} {k : Nat} (hn : (T.1 2).toNatClampNeg ≤ k) (h : ¬ (begT T away).2.1 k = 3) : TE ((bg3 T away k).1, (bg3 T away k).2.1, upd (bg3 T away k).2.2.1 k 0, upd (bg3 T away k).2.2.2 k 0) (bg3 T away (k + 1)) := by
  refine ⟨fun _ _ => rfl, fun i _ => ⟨rfl, ?_, ?_⟩⟩
  · simp only [bg3, upd]
    by_cases e : i = k
    · subst e; simp [h, hn]
    · have : i < k + 1 ↔ i < k := by omega
      simp [e, this]
  · simp only [bg3, upd]
    by_cases e : i = k
    · subst e; simp [h, hn]
    · have : i < k + 1 ↔ i < k := by omega
      simp [e, this]
theorem bg3_n {T : mT} {away : Int32} {k : Nat} (h : (begT T away).2.1 k = 3) : TE (bg3 T away k) (bg3 T away (k + 1)) := by
  refine ⟨fun _ _ => rfl, fun i _ => ⟨rfl, ?_, ?_⟩⟩
  · simp only [bg3]
    by_cases e : i = k
    · subst e; simp [h]
    · have : i < k + 1 ↔ i < k := by omega
      simp [this]
  · simp only [bg3]
    by_cases e : i = k
    · subst e; simp [h]
    · have : i < k + 1 ↔ i < k := by omega
      simp [this]
theorem bg3_16 {T : mT} {away : Int32} : TE (bg3 T away 16) (begT T away) := by
  refine ⟨fun _ _ => rfl, fun k hk => ⟨rfl, ?_, ?_⟩⟩
  · by_cases h1 : T.2.1 k = 1
    · simp [bg3, bg1, begT, h1, hk]
    · by_cases h3 : T.2.1 k = 3
      · simp [bg3, bg1, begT, h3]
      · by_cases hn : k < (T.1 2).toNatClampNeg
        · have : ¬ (T.1 2).toNatClampNeg ≤ k := by omega
          simp [bg3, bg1, begT, h1, h3, hn, this]
        · have : (T.1 2).toNatClampNeg ≤ k := by omega
          simp [bg3, bg1, begT, h1, h3, this, hk]
  · by_cases h1 : T.2.1 k = 1
    · simp [bg3, bg1, begT, h1, hk]
    · by_cases h3 : T.2.1 k = 3
      · simp [bg3, bg1, begT, h3]
      · by_cases hn : k < (T.1 2).toNatClampNeg
        · have : ¬ (T.1 2).toNatClampNeg ≤ k := by omega
          simp [bg3, bg1, begT, h1, h3, hn, this]
        · have : (T.1 2).toNatClampNeg ≤ k := by omega
          simp [bg3, bg1, begT, h1, h3, this, hk]
section HIKE
variable {G : mG} {d : Nat} {S0 : mS} {a : Nat} {T : mT} {away : Int32} {Q : Option Int32 → mS → Prop}
theorem lp_X3_beginHike1 (ha : kd a = 3) (hx : ∀ u, TP u a (bg1 T away 16) → FR a S0 u → At G (d + 1) M_X3_beginHike Q 42 [(0, rv G a), (1, .int away)] [] u) : ∀ n k S, n + k = 16 → TP S a (bg1 T away k) → FR a S0 S → At G (d + 1) M_X3_beginHike Q 2 [(0, rv G a), (1, .int away), (2, .int (nI k))] [] S := by
  obtain ⟨k1, k2, l1, l2, f1, f2⟩ := kdT ha
  intro n
  induction n with
  | zero =>
    intro k S hk hT hF
    obtain rfl : k = 16 := by omega
    refine r_iload_n dX3_beginHike_2 2 rfl ?_
    refine r_bipush dX3_beginHike_3 (v := 16) (by decide +kernel) ?_
    refine r_icmp_ge dX3_beginHike_5 (tgt := 42) (by decide) (fun h5 => ?_) (fun h5 => ?_)
    · --t
      exact r_sub [0, 1] rfl (hx _ hT hF)
    · --f
      exact absurd (show (16 : Int32) ≤ nI 16 by decide) h5
  | succ n ih =>
    intro k S hk hT hF
    have hk16 : k < 16 := by omega
    have hk32 : k < 32 := by omega
    have hl1 : k < ln (a + 1) := by rw [l1]; exact hk16
    have hl2 : k < ln (a + 2) := by rw [l2]; exact hk16
    have eb : bt (S a 3) k = (T.2.1 k == 1) := by rw [hT.2.1.1, bt_hm _ _ hk16]; rfl
    have e2 : up1 S (a + 1) (upd (S (a + 1)) k away) (a + 2) k = T.2.2.2 k := by rw [up1_n (by omega), (hT.2.2 k hk16).2]; simp [bg1]
    refine r_iload_n dX3_beginHike_2 2 rfl ?_
    refine r_bipush dX3_beginHike_3 (v := 16) (by decide +kernel) ?_
    refine r_icmp_ge dX3_beginHike_5 (tgt := 42) (by decide) (fun h5 => ?_) (fun h5 => ?_)
    · --t
      exact absurd h5 (c16 hk16)
    · --f
      refine r_aload_n dX3_beginHike_8 0 rfl ?_
      refine r_getI (by first | assumption | rfl) f_X3_28 rfl rfl dX3_beginHike_9 ?_
      refine r_iload_n dX3_beginHike_12 2 rfl ?_
      refine r_callSiF (As := [_, _]) c_X3_isIn l_X3_59 rfl rfl rfl (Nat.le_of_ble_eq_true rfl) dX3_beginHike_13 (t_X3_isIn rfl hk32) ?_
      refine r_if_eq dX3_beginHike_16 (tgt := 36) (by decide) (fun h16 => ?_) (fun h16 => ?_)
      · --t
        rw [eb, bI_0, beq_eq_false_iff_ne] at h16
        refine r_iinc (lo2 := [(0, _), (1, _), (2, _)]) dX3_beginHike_36 2 rfl (w := 1) rfl (Nat.le_of_ble_eq_true rfl) [1, 2, 0] rfl ?_
        refine r_goto dX3_beginHike_39 (tgt := 2) (by decide) ?_
        rw [nI_1]
        exact ih (k + 1) _ (by omega) (hT.te (bg1_n h16)) hF
      · --f
        refine r_aload_n dX3_beginHike_19 0 rfl ?_
        refine r_getR (by first | assumption | rfl) f_X3_9 rfl rfl dX3_beginHike_20 (by first | assumption | rfl) ?_
        refine r_iload_n dX3_beginHike_23 2 rfl ?_
        refine r_iload_n dX3_beginHike_24 1 rfl ?_
        refine r_iast (j := _) (by first | assumption | rfl) (by first | assumption | rfl) (by first | assumption | decide) dX3_beginHike_25 ?_
        refine r_aload_n dX3_beginHike_26 0 rfl ?_
        refine r_getR (by first | assumption | rfl) f_X3_15 rfl rfl dX3_beginHike_27 (by first | assumption | rfl) ?_
        refine r_iload_n dX3_beginHike_30 2 rfl ?_
        refine r_dup2 dX3_beginHike_31 rfl rfl ?_
        refine r_iald (j := _) (by first | assumption | rfl) (by first | assumption | rfl) (by first | assumption | decide) dX3_beginHike_32 ?_
        refine r_iconst dX3_beginHike_33 (v := 1) rfl ?_
        refine r_iadd dX3_beginHike_34 ?_
        refine r_iast (j := _) (by first | assumption | rfl) (by first | assumption | rfl) (by first | assumption | decide) dX3_beginHike_35 ?_
        refine r_iinc (lo2 := [(0, _), (1, _), (2, _)]) dX3_beginHike_36 2 rfl (w := 1) rfl (Nat.le_of_ble_eq_true rfl) [1, 2, 0] rfl ?_
        refine r_goto dX3_beginHike_39 (tgt := 2) (by decide) ?_
        rw [nI_1]
        rw [eb, bI_0, beq_eq_false_iff_ne, ne_eq, Classical.not_not] at h16
        have h1 := (hT.fr (j := k) away).tm (j := k) (T.2.2.2 k + 1)
        rw [e2]
        exact ih (k + 1) _ (by omega) (TP.te h1 (bg1_y h16)) (hF.up1'.up2)
theorem lp_X3_beginHike2 (ha : kd a = 3) (hW : WF T) (hx : ∀ u, TP u a (begT T away) → FR a S0 u → Q none u) : ∀ n k S, n + k = 16 → (T.1 2).toNatClampNeg ≤ k → TP S a (bg3 T away k) → FR a S0 S → At G (d + 1) M_X3_beginHike Q 140 [(0, rv G a), (1, .int away), (2, .int (nI k))] [] S := by
  obtain ⟨k1, k2, l1, l2, f1, f2⟩ := kdT ha
  intro n
  induction n with
  | zero =>
    intro k S hk hn hT hF
    obtain rfl : k = 16 := by omega
    refine r_iload_n dX3_beginHike_140 2 rfl ?_
    refine r_bipush dX3_beginHike_141 (v := 16) (by decide +kernel) ?_
    refine r_icmp_ge dX3_beginHike_143 (tgt := 177) (by decide) (fun h143 => ?_) (fun h143 => ?_)
    · --t
      refine r_vret rfl dX3_beginHike_177 ?_
      exact hx _ (hT.te bg3_16) hF
    · --f
      exact absurd (show (16 : Int32) ≤ nI 16 by decide) h143
  | succ n ih =>
    intro k S hk hn hT hF
    have hk16 : k < 16 := by omega
    have hk32 : k < 32 := by omega
    have hl1 : k < ln (a + 1) := by rw [l1]; exact hk16
    have hl2 : k < ln (a + 2) := by rw [l2]; exact hk16
    have eb : bt (S a 5) k = ((begT T away).2.1 k == 3) := by rw [hT.2.1.2.2.1, bt_hm _ _ hk16]; rfl
    refine r_iload_n dX3_beginHike_140 2 rfl ?_
    refine r_bipush dX3_beginHike_141 (v := 16) (by decide +kernel) ?_
    refine r_icmp_ge dX3_beginHike_143 (tgt := 177) (by decide) (fun h143 => ?_) (fun h143 => ?_)
    · --t
      exact absurd h143 (c16 hk16)
    · --f
      refine r_aload_n dX3_beginHike_146 0 rfl ?_
      refine r_getI (by first | assumption | rfl) f_X3_34 rfl rfl dX3_beginHike_147 ?_
      refine r_iload_n dX3_beginHike_150 2 rfl ?_
      refine r_callSiF (As := [_, _]) c_X3_isIn l_X3_59 rfl rfl rfl (Nat.le_of_ble_eq_true rfl) dX3_beginHike_151 (t_X3_isIn rfl hk32) ?_
      refine r_if_ne dX3_beginHike_154 (tgt := 171) (by decide) (fun h154 => ?_) (fun h154 => ?_)
      · --t
        rw [eb, bI_n0, beq_iff_eq] at h154
        refine r_iinc (lo2 := [(0, _), (1, _), (2, _)]) dX3_beginHike_171 2 rfl (w := 1) rfl (Nat.le_of_ble_eq_true rfl) [1, 2, 0] rfl ?_
        refine r_goto dX3_beginHike_174 (tgt := 140) (by decide) ?_
        rw [nI_1]
        exact ih (k + 1) _ (by omega) (by omega) (hT.te (bg3_n h154)) hF
      · --f
        refine r_aload_n dX3_beginHike_157 0 rfl ?_
        refine r_getR (by first | assumption | rfl) f_X3_9 rfl rfl dX3_beginHike_158 (by first | assumption | rfl) ?_
        refine r_iload_n dX3_beginHike_161 2 rfl ?_
        refine r_iconst dX3_beginHike_162 (v := 0) rfl ?_
        refine r_iast (j := _) (by first | assumption | rfl) (by first | assumption | rfl) (by first | assumption | decide) dX3_beginHike_163 ?_
        refine r_aload_n dX3_beginHike_164 0 rfl ?_
        refine r_getR (by first | assumption | rfl) f_X3_15 rfl rfl dX3_beginHike_165 (by first | assumption | rfl) ?_
        refine r_iload_n dX3_beginHike_168 2 rfl ?_
        refine r_iconst dX3_beginHike_169 (v := 0) rfl ?_
        refine r_iast (j := _) (by first | assumption | rfl) (by first | assumption | rfl) (by first | assumption | decide) dX3_beginHike_170 ?_
        refine r_iinc (lo2 := [(0, _), (1, _), (2, _)]) dX3_beginHike_171 2 rfl (w := 1) rfl (Nat.le_of_ble_eq_true rfl) [1, 2, 0] rfl ?_
        refine r_goto dX3_beginHike_174 (tgt := 140) (by decide) ?_
        rw [nI_1]
        rw [eb, bI_0, beq_eq_false_iff_ne] at h154
        have h1 := (hT.fr (j := k) 0).tm (j := k) 0
        exact ih (k + 1) _ (by omega) (by omega) (TP.te h1 (bg3_y hn h154)) (hF.up1'.up2)
end HIKE

theorem TP.sc {S u : mS} {a : Nat} {T T' : mT} (h : TP S a T) (h1 : u (a + 1) = S (a + 1)) (h2 : u (a + 2) = S (a + 2)) (e1 : u a 0 = T'.1 0) (e2 : u a 1 = T'.1 2) (e3 : u a 2 = T'.1 1) (e4 : u a 7 = T'.1 5) (e5 : u a 8 = T'.1 3) (e6 : u a 9 = T'.1 4)
    (m1 : u a 3 = hm T' 1) (m2 : u a 4 = hm T' 2) (m3 : u a 5 = hm T' 3) (m4 : u a 6 = hm T' 4) (hr : T'.2.2 = T.2.2) : TP u a T' := by
  refine ⟨⟨e1, e2, e3, e4, e5, e6⟩, ⟨m1, m2, m3, m4⟩, fun k hk => ?_⟩
  rw [h1, h2, hr]
  exact h.2.2 k hk
theorem hm_beg1 {T : mT} {away : Int32} {n : Nat} (hn : (T.1 2).toNatClampNeg = n) (h16 : n ≤ 16) (e2 : T.1 2 = nI n) (hW : WF T) : hm T 2 &&& (((1 : Int32) <<< (T.1 2 &&& 31)) - 1) = mkm (fun k => (begT T away).2.1 k == 1) 16 := by
  rw [e2]
  refine mkm_eq (fun i hi => ?_) (fun i h1 h2 => ?_)
  · rw [b_and, bt_hm _ _ hi, bt_every n h16 i (by omega)]
    unfold begT
    dsimp only
    rw [hn]
    have hv := (hW.2.2 i hi).1
    by_cases hl : i < n
    · rcases hv with h | h | h | h | h <;> simp [h, hl]
    · rcases hv with h | h | h | h | h <;> simp [h, hl]
  · rw [b_and, hm, mkm_hi _ i h1 h2]; rfl
theorem hm_beg2 {T : mT} {away : Int32} (hW : WF T) : 0 = mkm (fun k => (begT T away).2.1 k == 2) 16 := by
  symm
  rw [mkm_0]
  intro i hi
  have hv := (hW.2.2 i hi).1
  unfold begT
  dsimp only
  by_cases hl : i < (T.1 2).toNatClampNeg
  · rcases hv with h | h | h | h | h <;> simp [h, hl]
  · rcases hv with h | h | h | h | h <;> simp [h, hl]
theorem hm_beg3 {T : mT} {away : Int32} (hW : WF T) : hm T 3 ||| hm T 1 = mkm (fun k => (begT T away).2.1 k == 3) 16 := by
  refine mkm_eq (fun i hi => ?_) (fun i h1 h2 => ?_)
  · rw [b_or, bt_hm _ _ hi, bt_hm _ _ hi]
    have hv := (hW.2.2 i hi).1
    unfold begT
    dsimp only
    by_cases hl : i < (T.1 2).toNatClampNeg
    · rcases hv with h | h | h | h | h <;> simp [h, hl]
    · rcases hv with h | h | h | h | h <;> simp [h, hl]
  · rw [b_or, hm, mkm_hi _ i h1 h2, hm, mkm_hi _ i h1 h2]; rfl
theorem hm_beg4 {T : mT} {away : Int32} {n : Nat} (hn : (T.1 2).toNatClampNeg = n) (h16 : n ≤ 16) (e2 : T.1 2 = nI n) (hW : WF T) : hm T 4 &&& (((1 : Int32) <<< (T.1 2 &&& 31)) - 1) = mkm (fun k => (begT T away).2.1 k == 4) 16 := by
  rw [e2]
  refine mkm_eq (fun i hi => ?_) (fun i h1 h2 => ?_)
  · rw [b_and, bt_hm _ _ hi, bt_every n h16 i (by omega)]
    unfold begT
    dsimp only
    rw [hn]
    have hv := (hW.2.2 i hi).1
    by_cases hl : i < n
    · rcases hv with h | h | h | h | h <;> simp [h, hl]
    · rcases hv with h | h | h | h | h <;> simp [h, hl]
  · rw [b_and, hm, mkm_hi _ i h1 h2]; rfl
theorem t_X3_beginHike {G : mG} {d : Nat} {S : mS} {a : Nat} {T : mT} {away : Int32} (ha : kd a = 3) (hT : TP S a T) (hW : WF T) : Call G (d + 1) M_X3_beginHike [rv G a, .int away] S (fun v u => v = none ∧ TP u a (begT T away) ∧ FR a S u) := by
  refine call_of (lo := [(0, rv G a), (1, .int away)]) (by decide +kernel) (Nat.le_of_ble_eq_true rfl) rfl ?_
  refine r_iconst dX3_beginHike_0 (v := 0) rfl ?_
  refine r_istore_n (lo2 := [(0, _), (1, _), (2, _)]) dX3_beginHike_1 rfl (Nat.le_of_ble_eq_true rfl) [1, 2, 0] rfl ?_
  refine lp_X3_beginHike1 (T := T) ha (fun u hT hF => ?_) 16 0 S (by omega) (hT.te bg1_0) FR.rf
  obtain ⟨n, hn, e2, hn1, hn2⟩ := hW.nx
  obtain ⟨⟨a1, a2, a3, a4, a5, a6⟩, ⟨b1, b2, b3, b4⟩, c⟩ := id hT
  replace b1 : u a 3 = hm T 1 := b1
  replace b2 : u a 4 = hm T 2 := b2
  replace b3 : u a 5 = hm T 3 := b3
  replace b4 : u a 6 = hm T 4 := b4
  replace a2 : u a 1 = T.1 2 := a2
  refine r_aload_n dX3_beginHike_42 0 rfl ?_
  refine r_dup dX3_beginHike_43 rfl ?_
  refine r_getI (by first | assumption | rfl) f_X3_43 rfl rfl dX3_beginHike_44 ?_
  refine r_iconst dX3_beginHike_47 (v := 1) rfl ?_
  refine r_iadd dX3_beginHike_48 ?_
  refine r_putI (by first | assumption | rfl) f_X3_43 rfl rfl rfl rfl dX3_beginHike_49 ?_
  refine r_aload_n dX3_beginHike_52 0 rfl ?_
  refine r_dup dX3_beginHike_53 rfl ?_
  refine r_getI (by first | assumption | rfl) f_X3_46 rfl rfl dX3_beginHike_54 ?_
  refine r_aload_n dX3_beginHike_57 0 rfl ?_
  refine r_getI (by first | assumption | rfl) f_X3_28 rfl rfl dX3_beginHike_58 ?_
  refine r_callSiF (As := [_]) c_J6_bitCount_0f7a4 l_X3_70 rfl rfl rfl (Nat.le_of_ble_eq_true rfl) dX3_beginHike_61 t_J6_bitCount_0f7a4 ?_
  refine r_iadd dX3_beginHike_64 ?_
  refine r_putI (by first | assumption | rfl) f_X3_46 rfl rfl rfl rfl dX3_beginHike_65 ?_
  refine r_aload_n dX3_beginHike_68 0 rfl ?_
  refine r_dup dX3_beginHike_69 rfl ?_
  refine r_getI (by first | assumption | rfl) f_X3_34 rfl rfl dX3_beginHike_70 ?_
  refine r_aload_n dX3_beginHike_73 0 rfl ?_
  refine r_getI (by first | assumption | rfl) f_X3_28 rfl rfl dX3_beginHike_74 ?_
  refine r_ior dX3_beginHike_77 ?_
  refine r_putI (by first | assumption | rfl) f_X3_34 rfl rfl rfl rfl dX3_beginHike_78 ?_
  refine r_aload_n dX3_beginHike_81 0 rfl ?_
  refine r_iconst dX3_beginHike_82 (v := 1) rfl ?_
  refine r_aload_n dX3_beginHike_83 0 rfl ?_
  refine r_getI (by first | assumption | rfl) f_X3_25 rfl rfl dX3_beginHike_84 ?_
  refine r_isub dX3_beginHike_87 ?_
  refine r_putI (by first | assumption | rfl) f_X3_25 rfl rfl rfl rfl dX3_beginHike_88 ?_
  refine r_aload_n dX3_beginHike_91 0 rfl ?_
  refine r_aload_n dX3_beginHike_92 0 rfl ?_
  refine r_getI (by first | assumption | rfl) f_X3_22 rfl rfl dX3_beginHike_93 ?_
  refine r_putI (by first | assumption | rfl) f_X3_18 rfl rfl rfl rfl dX3_beginHike_96 ?_
  refine r_aload_n dX3_beginHike_99 0 rfl ?_
  refine r_dup dX3_beginHike_100 rfl ?_
  refine r_getI (by first | assumption | rfl) f_X3_37 rfl rfl dX3_beginHike_101 ?_
  refine r_aload_n dX3_beginHike_104 0 rfl ?_
  refine r_callViF (As := []) c_X3_everyone (by first | assumption | rfl) l_X3_63 rfl rfl rfl (Nat.le_of_ble_eq_true rfl) dX3_beginHike_105 (t_X3_everyone ha) ?_
  refine r_iand dX3_beginHike_108 ?_
  refine r_putI (by first | assumption | rfl) f_X3_37 rfl rfl rfl rfl dX3_beginHike_109 ?_
  refine r_aload_n dX3_beginHike_112 0 rfl ?_
  refine r_iconst dX3_beginHike_113 (v := 0) rfl ?_
  refine r_putI (by first | assumption | rfl) f_X3_40 rfl rfl rfl rfl dX3_beginHike_114 ?_
  refine r_aload_n dX3_beginHike_117 0 rfl ?_
  refine r_aload_n dX3_beginHike_118 0 rfl ?_
  refine r_getI (by first | assumption | rfl) f_X3_31 rfl rfl dX3_beginHike_119 ?_
  refine r_aload_n dX3_beginHike_122 0 rfl ?_
  refine r_callViF (As := []) c_X3_everyone (by first | assumption | rfl) l_X3_63 rfl rfl rfl (Nat.le_of_ble_eq_true rfl) dX3_beginHike_123 (t_X3_everyone ha) ?_
  refine r_iand dX3_beginHike_126 ?_
  refine r_putI (by first | assumption | rfl) f_X3_28 rfl rfl rfl rfl dX3_beginHike_127 ?_
  refine r_aload_n dX3_beginHike_130 0 rfl ?_
  refine r_iconst dX3_beginHike_131 (v := 0) rfl ?_
  refine r_putI (by first | assumption | rfl) f_X3_31 rfl rfl rfl rfl dX3_beginHike_132 ?_
  refine at_gen (fun w hw => ?_)
  have hF2 : FR a S w := by rw [hw]; exact hF.up0.up0.up0.up0.up0.up0.up0.up0.up0
  have hT2 : TP w a (bg2 T away) := by
    refine TP.sc hT ?_ ?_ ?_ ?_ ?_ ?_ ?_ ?_ ?_ ?_ ?_ ?_ rfl <;> rw [hw] <;> simp only [up1, upd, reduceIte, Nat.reduceEqDiff, ap3, ap4]
    · exact a2
    · exact a2
    · rw [a3]; rfl
    · rfl
    · rw [a5]; rfl
    · rw [a6, b1, bc_ok (m := hm T 1) (mkm_hi _)]; rfl
    · rw [b2, a2]; exact hm_beg1 (away := away) hn hn2 e2 hW
    · exact hm_beg2 (T := T) (away := away) hW
    · rw [b1, b3]; exact hm_beg3 (away := away) hW
    · rw [b4, a2]; exact hm_beg4 (away := away) hn hn2 e2 hW
  have es : w a 0 = nI n := hT2.1.1.trans e2
  clear hw
  refine r_aload_n dX3_beginHike_135 0 rfl ?_
  refine r_getI (by first | assumption | rfl) f_X3_18 rfl rfl dX3_beginHike_136 ?_
  refine r_istore_n (lo2 := [(0, _), (1, _), (2, _)]) dX3_beginHike_139 rfl (Nat.le_of_ble_eq_true rfl) [1, 2, 0] rfl ?_
  rw [es]
  exact lp_X3_beginHike2 ha hW (fun u hT hF => ⟨rfl, hT, hF⟩) (16 - n) n _ (by omega) (by omega) (hT2.te (bg3_0 hn.symm)) hF2
theorem tk_in {u w : mS} {a j : Nat} {T : mT} {c : Prop} [Decidable c] (hj : j < 16) (h : TP u a (setH T j 0)) (h1 : c → w = up1 u a (upd (u a) 3 (u a 3 ||| ((1 : Int32) <<< (nI j &&& 31))))) (h2 : ¬ c → w = up1 u a (upd (u a) 4 (u a 4 ||| ((1 : Int32) <<< (nI j &&& 31))))) : TP w a (setH T j (if c then 1 else 2)) := by
  obtain ⟨⟨a1, a2, a3, a4, a5, a6⟩, ⟨b1, b2, b3, b4⟩, c1⟩ := id h
  by_cases z : c
  · rw [h1 z, if_pos z]
    refine TP.sc h ?_ ?_ ?_ ?_ ?_ ?_ ?_ ?_ ?_ ?_ ?_ ?_ rfl <;> simp only [up1, upd, reduceIte, Nat.reduceEqDiff, ap3, ap4]
    · exact a1
    · exact a2
    · exact a3
    · exact a4
    · exact a5
    · exact a6
    · rw [b1]; exact set_in T hj
    · rw [b2]; exact set_set T (by decide) hj
    · rw [b3]; exact set_set T (by decide) hj
    · rw [b4]; exact set_set T (by decide) hj
  · rw [h2 z, if_neg z]
    refine TP.sc h ?_ ?_ ?_ ?_ ?_ ?_ ?_ ?_ ?_ ?_ ?_ ?_ rfl <;> simp only [up1, upd, reduceIte, Nat.reduceEqDiff, ap3, ap4]
    · exact a1
    · exact a2
    · exact a3
    · exact a4
    · exact a5
    · exact a6
    · rw [b1]; exact set_set T (by decide) hj
    · rw [b2]; exact set_in T hj
    · rw [b3]; exact set_set T (by decide) hj
    · rw [b4]; exact set_set T (by decide) hj
theorem opn_f {T : mT} {away : Int32} {n : Nat} (h : ¬ canO T = true) : opnN n T away = (0, T) := by
  cases n with
  | zero => rfl
  | succ n => rw [opnN, if_neg h]
theorem lp_X3_openGate {G : mG} {d : Nat} {S0 : mS} {a : Nat} {away : Int32} {Q : Option Int32 → mS → Prop} (ha : kd a = 3) : ∀ n i S (T : mT), n + i = 3 → TP S a T → WF T → FR a S0 S → (∀ u, TP u a (opnN n T away).2 → FR a S0 u → Q (some (nI i + (opnN n T away).1)) u) → At G (d + 2) M_X3_openGate Q 2 [(0, rv G a), (1, .int away), (2, .int (nI i))] [] S := by
  intro n
  induction n with
  | zero =>
    intro i S T hi hT hW hF hQ
    obtain rfl : i = 3 := by omega
    refine r_iload_n dX3_openGate_2 2 rfl ?_
    refine r_iconst dX3_openGate_3 (v := 3) rfl ?_
    refine r_icmp_ge dX3_openGate_4 (tgt := 32) (by decide) (fun h4 => ?_) (fun h4 => ?_)
    · --t
      refine r_iload_n dX3_openGate_32 2 rfl ?_
      refine r_iret rfl dX3_openGate_33 ?_
      have h1 := hQ _ hT hF
      rw [show nI 3 + (opnN 0 T away).1 = nI 3 by show nI 3 + 0 = nI 3; decide] at h1
      exact h1
    · --f
      exact absurd (show (3 : Int32) ≤ nI 3 by decide) h4
  | succ n ih =>
    intro i S T hi hT hW hF hQ
    have hi3 : i < 3 := by omega
    have stop : ¬ canO T = true → Q (some (nI i)) S := fun h => by
      have h1 := hQ S (by rw [opn_f h]; exact hT) hF
      rw [opn_f h] at h1
      rw [show nI i + (0 : Int32) = nI i from Int32.add_zero _] at h1
      exact h1
    refine r_iload_n dX3_openGate_2 2 rfl ?_
    refine r_iconst dX3_openGate_3 (v := 3) rfl ?_
    refine r_icmp_ge dX3_openGate_4 (tgt := 32) (by decide) (fun h4 => ?_) (fun h4 => ?_)
    · --t
      exact absurd h4 (nI_ge (b := 3) hi3 (by decide))
    · --f
      refine r_aload_n dX3_openGate_7 0 rfl ?_
      refine r_getI (by first | assumption | rfl) f_X3_28 rfl rfl dX3_openGate_8 ?_
      refine r_if_eq dX3_openGate_11 (tgt := 32) (by decide) (fun h11 => ?_) (fun h11 => ?_)
      · --t
        refine r_iload_n dX3_openGate_32 2 rfl ?_
        refine r_iret rfl dX3_openGate_33 ?_
        exact stop (by simp only [canO]; first | (rw [hT.2.1.1] at h11; simp [h11]; done) | simp [h18])
      · --f
        refine r_aload_n dX3_openGate_14 0 rfl ?_
        refine r_callViF (As := []) c_X3_waitedFor (by first | assumption | rfl) l_X3_67 rfl rfl rfl (Nat.le_of_ble_eq_true rfl) dX3_openGate_15 (t_X3_waitedFor ha hT hW) ?_
        refine r_if_ne dX3_openGate_18 (tgt := 32) (by decide) (fun h18 => ?_) (fun h18 => ?_)
        · --t
          refine r_iload_n dX3_openGate_32 2 rfl ?_
          refine r_iret rfl dX3_openGate_33 ?_
          exact stop (by simp only [canO]; first | (rw [hT.2.1.1] at h11; simp [h11]; done) | simp [h18])
        · --f
          refine r_aload_n dX3_openGate_21 0 rfl ?_
          refine r_iload_n dX3_openGate_22 1 rfl ?_
          refine r_callVv (As := [_]) c_X3_beginHike (by first | assumption | rfl) l_X3_86 rfl rfl rfl (Nat.le_of_ble_eq_true rfl) dX3_openGate_23 (t_X3_beginHike ha hT hW) (fun u23 q23 => ?_)
          obtain ⟨-, hT2, hF2⟩ := q23
          refine r_iinc (lo2 := [(0, _), (1, _), (2, _)]) dX3_openGate_26 2 rfl (w := 1) rfl (Nat.le_of_ble_eq_true rfl) [1, 2, 0] rfl ?_
          refine r_goto dX3_openGate_29 (tgt := 2) (by decide) ?_
          rw [nI_1]
          rw [hT.2.1.1] at h11
          have hc : canO T = true := by simp only [canO]; simp [h11, h18]
          have e1 : opnN (n + 1) T away = ((opnN n (begT T away) away).1 + 1, (opnN n (begT T away) away).2) := by rw [opnN, if_pos hc]
          refine ih (i + 1) _ (begT T away) (by omega) hT2 (wf_beg hW away) (hF.tr hF2) (fun u hTu hFu => ?_)
          have h1 := hQ u (by rw [e1]; exact hTu) hFu
          rw [e1] at h1
          rw [show nI i + ((opnN n (begT T away) away).1 + 1) = nI (i + 1) + (opnN n (begT T away) away).1 by rw [← nI_1, Int32.add_assoc, Int32.add_comm 1]] at h1
          exact h1
theorem t_X3_openGate {G : mG} {d : Nat} {S : mS} {a : Nat} {T : mT} {away : Int32} (ha : kd a = 3) (hT : TP S a T) (hW : WF T) : Call G (d + 2) M_X3_openGate [rv G a, .int away] S (fun v u => v = some (opnN 3 T away).1 ∧ TP u a (opnN 3 T away).2 ∧ FR a S u) := by
  refine call_of (lo := [(0, rv G a), (1, .int away)]) (by decide +kernel) (Nat.le_of_ble_eq_true rfl) rfl ?_
  refine r_iconst dX3_openGate_0 (v := 0) rfl ?_
  refine r_istore_n (lo2 := [(0, _), (1, _), (2, _)]) dX3_openGate_1 rfl (Nat.le_of_ble_eq_true rfl) [1, 2, 0] rfl ?_
  refine lp_X3_openGate ha 3 0 S T (by omega) hT hW FR.rf (fun u hT hF => ⟨?_, hT, hF⟩)
  rw [show nI 0 + (opnN 3 T away).1 = (opnN 3 T away).1 from Int32.zero_add _]
theorem t_X3_takeIn {G : mG} {d : Nat} {S : mS} {a j : Nat} {T : mT} {col away : Int32} (ha : kd a = 3) (hj : j < tsz T) (hT : TP S a T) (hW : WF T) : Call G (d + 3) M_X3_takeIn [rv G a, .int (nI j), .int col, .int away] S (fun v u => v = some (opnN 3 (setH T j (if col = T.1 1 then 1 else 2)) away).1 ∧ TP u a (opnN 3 (setH T j (if col = T.1 1 then 1 else 2)) away).2 ∧ FR a S u) := by
  refine call_of (lo := [(0, rv G a), (1, .int (nI j)), (2, .int col), (3, .int away)]) (by decide +kernel) (Nat.le_of_ble_eq_true rfl) rfl ?_
  have hj16 : j < 16 := by obtain ⟨s, h1, h2, h3, h4⟩ := hW.sz; omega
  refine r_aload_n dX3_takeIn_0 0 rfl ?_
  refine r_iload_n dX3_takeIn_1 1 rfl ?_
  refine r_callVv (As := [_]) c_X3_bringHome (by first | assumption | rfl) l_X3_76 rfl rfl rfl (Nat.le_of_ble_eq_true rfl) dX3_takeIn_2 (t_X3_bringHome ha hj16 hT) (fun u2 q2 => ?_)
  obtain ⟨-, hT1, hF1⟩ := q2
  refine r_iload_n dX3_takeIn_5 2 rfl ?_
  refine r_aload_n dX3_takeIn_6 0 rfl ?_
  refine r_getI (by first | assumption | rfl) f_X3_25 rfl rfl dX3_takeIn_7 ?_
  refine r_icmp_ne dX3_takeIn_10 (tgt := 28) (by decide) (fun h10 => ?_) (fun h10 => ?_)
  · --t
    refine r_aload_n dX3_takeIn_28 0 rfl ?_
    refine r_dup dX3_takeIn_29 rfl ?_
    refine r_getI (by first | assumption | rfl) f_X3_31 rfl rfl dX3_takeIn_30 ?_
    refine r_iconst dX3_takeIn_33 (v := 1) rfl ?_
    refine r_iload_n dX3_takeIn_34 1 rfl ?_
    refine r_ishl dX3_takeIn_35 ?_
    refine r_ior dX3_takeIn_36 ?_
    refine r_putI (by first | assumption | rfl) f_X3_31 rfl rfl rfl rfl dX3_takeIn_37 ?_
    refine at_gen (fun w hw => ?_)
    have hx : (col = T.1 1 → w = up1 u2 a (upd (u2 a) 3 (u2 a 3 ||| ((1 : Int32) <<< (nI j &&& 31))))) ∧ (¬ col = T.1 1 → w = up1 u2 a (upd (u2 a) 4 (u2 a 4 ||| ((1 : Int32) <<< (nI j &&& 31))))) := by
      rw [hT1.1.2.2.1] at h10
      have h10' : _ := h10
      exact ⟨fun z => by first | exact hw | exact absurd z h10', fun z => by first | exact hw | exact absurd h10' z | exact absurd (Classical.not_not.mp h10') z⟩
    have hW2 : WF (setH T j (if col = T.1 1 then 1 else 2)) := wf_set hW hj (by by_cases z : col = T.1 1 <;> simp [z])
    have hT2 : TP w a (setH T j (if col = T.1 1 then 1 else 2)) := tk_in hj16 hT1 hx.1 hx.2
    have hF2 : FR a S w := by rw [hw]; exact hF1.up0
    clear hw hx
    refine r_aload_n dX3_takeIn_40 0 rfl ?_
    refine r_iload_n dX3_takeIn_41 3 rfl ?_
    refine r_callVi (As := [_]) c_X3_openGate (by first | assumption | rfl) l_X3_80 rfl rfl rfl (Nat.le_of_ble_eq_true rfl) dX3_takeIn_42 (t_X3_openGate ha hT2 hW2) (fun r42 u42 q42 => ?_)
    obtain ⟨h3, hT3, hF3⟩ := q42
    cases h3
    refine r_iret rfl dX3_takeIn_45 ?_
    exact ⟨rfl, hT3, hF2.tr hF3⟩
  · --f
    refine r_aload_n dX3_takeIn_13 0 rfl ?_
    refine r_dup dX3_takeIn_14 rfl ?_
    refine r_getI (by first | assumption | rfl) f_X3_28 rfl rfl dX3_takeIn_15 ?_
    refine r_iconst dX3_takeIn_18 (v := 1) rfl ?_
    refine r_iload_n dX3_takeIn_19 1 rfl ?_
    refine r_ishl dX3_takeIn_20 ?_
    refine r_ior dX3_takeIn_21 ?_
    refine r_putI (by first | assumption | rfl) f_X3_28 rfl rfl rfl rfl dX3_takeIn_22 ?_
    refine r_goto dX3_takeIn_25 (tgt := 40) (by decide) ?_
    refine at_gen (fun w hw => ?_)
    have hx : (col = T.1 1 → w = up1 u2 a (upd (u2 a) 3 (u2 a 3 ||| ((1 : Int32) <<< (nI j &&& 31))))) ∧ (¬ col = T.1 1 → w = up1 u2 a (upd (u2 a) 4 (u2 a 4 ||| ((1 : Int32) <<< (nI j &&& 31))))) := by
      rw [hT1.1.2.2.1] at h10
      have h10' : _ := h10
      exact ⟨fun z => by first | exact hw | exact absurd z h10', fun z => by first | exact hw | exact absurd h10' z | exact absurd (Classical.not_not.mp h10') z⟩
    have hW2 : WF (setH T j (if col = T.1 1 then 1 else 2)) := wf_set hW hj (by by_cases z : col = T.1 1 <;> simp [z])
    have hT2 : TP w a (setH T j (if col = T.1 1 then 1 else 2)) := tk_in hj16 hT1 hx.1 hx.2
    have hF2 : FR a S w := by rw [hw]; exact hF1.up0
    clear hw hx
    refine r_aload_n dX3_takeIn_40 0 rfl ?_
    refine r_iload_n dX3_takeIn_41 3 rfl ?_
    refine r_callVi (As := [_]) c_X3_openGate (by first | assumption | rfl) l_X3_80 rfl rfl rfl (Nat.le_of_ble_eq_true rfl) dX3_takeIn_42 (t_X3_openGate ha hT2 hW2) (fun r42 u42 q42 => ?_)
    obtain ⟨h3, hT3, hF3⟩ := q42
    cases h3
    refine r_iret rfl dX3_takeIn_45 ?_
    exact ⟨rfl, hT3, hF2.tr hF3⟩
