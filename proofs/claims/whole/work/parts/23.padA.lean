/-! the pad: reading a text -/
def sg (P : Nat → Int32) (len i : Nat) : Int32 := if i < len then P i else 0
def dgt (x : Int32) : Bool := decide (48 ≤ x ∧ x ≤ 57)
def rN (P : Nat → Int32) (len i : Nat) : Bool × Nat × Int32 :=
  if dgt (sg P len i) = true then (if 0 < sg P len i - 48 ∧ dgt (sg P len (i + 1)) = true then (true, i + 2, (sg P len i - 48) * 10 + sg P len (i + 1) - 48) else (true, i + 1, sg P len i - 48)) else (false, i, 0)
/-- a digit, a sign, a number -/
def rB (P : Nat → Int32) (len i : Nat) (c : Int32) : Bool × Nat × Int32 × Int32 :=
  if dgt (sg P len i) = true then (if sg P len (i + 1) = c then ((rN P len (i + 2)).1, (rN P len (i + 2)).2.1, sg P len i - 48, (rN P len (i + 2)).2.2) else (false, i + 1, 0, 0)) else (false, i, 0, 0)
/-- an order: whether it is one, where it ends (or breaks off), its kind, troop, number, colour -/
def rO (P : Nat → Int32) (len i : Nat) : Bool × Nat × Int32 × Int32 × Int32 × Int32 :=
  if sg P len i = 110 ∨ sg P len i = 116 then ((rN P len (i + 1)).1, (rN P len (i + 1)).2.1, sg P len i, 0, (rN P len (i + 1)).2.2, 0)
  else if sg P len i = 99 then (if (rB P len (i + 1) 46).1 = true then (if sg P len (rB P len (i + 1) 46).2.1 = 114 ∨ sg P len (rB P len (i + 1) 46).2.1 = 98
      then (true, (rB P len (i + 1) 46).2.1 + 1, 99, (rB P len (i + 1) 46).2.2.1, (rB P len (i + 1) 46).2.2.2, if sg P len (rB P len (i + 1) 46).2.1 = 98 then 1 else 0)
      else (false, (rB P len (i + 1) 46).2.1, 0, 0, 0, 0)) else (false, (rB P len (i + 1) 46).2.1, 0, 0, 0, 0))
  else if sg P len i = 108 then ((rB P len (i + 1) 46).1, (rB P len (i + 1) 46).2.1, 108, (rB P len (i + 1) 46).2.2.1, (rB P len (i + 1) 46).2.2.2, 0)
  else if sg P len i = 115 then ((rB P len (i + 1) 61).1, (rB P len (i + 1) 61).2.1, 115, (rB P len (i + 1) 61).2.2.1, (rB P len (i + 1) 61).2.2.2, 0)
  else (false, i, 0, 0, 0, 0)
def chr (x : Int32) : Prop := ∃ c, x = nI c ∧ 33 ≤ c ∧ c ≤ 126
def PD (S : mS) (P : Nat → Int32) (len i : Nat) : Prop := (S 185 1 = nI len ∧ len ≤ 80 ∧ S 185 2 = nI i ∧ i ≤ len) ∧ ∀ j, j < len → S 186 j = P j ∧ chr (P j)
def FP (S u : mS) : Prop := ∀ b, b ≠ 185 → u b = S b
theorem FP.rf {S : mS} : FP S S := fun _ _ => rfl
theorem FP.tr {S u w : mS} (h : FP S u) (g : FP u w) : FP S w := fun b hb => (g b hb).trans (h b hb)
theorem FP.up {S u : mS} {f : Nat → Int32} (h : FP S u) : FP S (up1 u 185 f) := fun b hb => (up1_n hb).trans (h b hb)
theorem PD.fld {S : mS} {P : Nat → Int32} {len i k : Nat} {x : Int32} (h : PD S P len i) (h1 : k ≠ 1) (h2 : k ≠ 2) : PD (up1 S 185 (upd (S 185) k x)) P len i := by
  refine ⟨?_, fun j hj => ?_⟩
  · rw [up1_s, upd, upd, if_neg (fun z => h1 z.symm), if_neg (fun z => h2 z.symm)]; exact h.1
  · rw [up1_n (by omega)]; exact h.2 j hj
theorem PD.at {S : mS} {P : Nat → Int32} {len i m : Nat} {x : Int32} (h : PD S P len i) (hx : x = nI m) (hm : m ≤ len) : PD (up1 S 185 (upd (S 185) 2 x)) P len m := by
  refine ⟨?_, fun j hj => ?_⟩
  · rw [up1_s, upd, upd, if_neg (by omega), if_pos rfl]; exact ⟨h.1.1, h.1.2.1, hx, hm⟩
  · rw [up1_n (by omega)]; exact h.2 j hj
theorem chr_nar {x : Int32} (h : chr x ∨ x = 0) : narrow .char (.int x) = .int x ∧ fits .char (.int x) = true := by
  rcases h with ⟨c, rfl, h1, h2⟩ | rfl
  · exact pk_charN (by omega)
  · exact ⟨rfl, rfl⟩
theorem sg_chr {S : mS} {P : Nat → Int32} {len i : Nat} (h : PD S P len i) (j : Nat) : chr (sg P len j) ∨ sg P len j = 0 := by
  unfold sg
  by_cases hj : j < len
  · rw [if_pos hj]; exact Or.inl (h.2 j hj).2
  · rw [if_neg hj]; exact Or.inr rfl
theorem sg_lt {P : Nat → Int32} {len i : Nat} (h : sg P len i ≠ 0) : i < len := by
  refine Nat.not_le.mp fun z => h ?_
  unfold sg
  rw [if_neg (by omega)]
theorem dgt_lt {P : Nat → Int32} {len i : Nat} (h : dgt (sg P len i) = true) : i < len := by
  refine sg_lt (P := P) (fun z => ?_)
  rw [z] at h
  exact absurd h (by decide)
theorem i48 : (48 : Int32).toInt = 48 := by decide
theorem i57 : (57 : Int32).toInt = 57 := by decide
section PADR
variable {G : mG} {d : Nat} {S : mS} {P : Nat → Int32} {len i : Nat}
theorem t_X1_sign (h : PD S P len i) : Call G d M_X1_sign [rv G 185] S (fun v u => v = some (sg P len i) ∧ u = S) := by
  refine call_of (lo := [(0, rv G 185)]) (by decide +kernel) (Nat.le_of_ble_eq_true rfl) rfl ?_
  obtain ⟨⟨e1, e2, e3, e4⟩, hc⟩ := id h
  by_cases hi : i < len
  · have hl : i < ln 186 := show i < 80 by omega
    have en : narrow .char (.int (S 186 i)) = .int (S 186 i) := by rw [(hc i hi).1]; exact (chr_nar (Or.inl (hc i hi).2)).1
    refine r_aload_n dX1_sign_0 0 rfl ?_
    refine r_getI (by first | assumption | rfl) f_X1_21 rfl rfl dX1_sign_1 ?_
    refine r_aload_n dX1_sign_4 0 rfl ?_
    refine r_getI (by first | assumption | rfl) f_X1_17 rfl rfl dX1_sign_5 ?_
    refine r_icmp_ge dX1_sign_8 (tgt := 23) (by decide) (fun h8 => ?_) (fun h8 => ?_)
    · --t
      exact absurd (by rw [e1, e3] at h8; exact h8) (nI_ge hi (by omega))
    · --f
      refine r_aload_n dX1_sign_11 0 rfl ?_
      refine r_getR (b := 186) (by first | assumption | rfl) f_X1_9 rfl rfl dX1_sign_12 rfl ?_
      refine r_aload_n dX1_sign_15 0 rfl ?_
      refine r_getI (by first | assumption | rfl) f_X1_21 rfl rfl dX1_sign_16 ?_
      refine r_cald (j := _) (by first | assumption | rfl) e3 (by first | assumption | decide) dX1_sign_19 ?_
      refine r_goto dX1_sign_20 (tgt := 24) (by decide) ?_
      refine r_zret rfl en dX1_sign_24 ?_
      exact ⟨by unfold sg; rw [if_pos hi, (hc i hi).1], rfl⟩
  · have hge : ¬ i < len := hi
    refine r_aload_n dX1_sign_0 0 rfl ?_
    refine r_getI (by first | assumption | rfl) f_X1_21 rfl rfl dX1_sign_1 ?_
    refine r_aload_n dX1_sign_4 0 rfl ?_
    refine r_getI (by first | assumption | rfl) f_X1_17 rfl rfl dX1_sign_5 ?_
    refine r_icmp_ge dX1_sign_8 (tgt := 23) (by decide) (fun h8 => ?_) (fun h8 => ?_)
    · --t
      refine r_iconst dX1_sign_23 (v := 0) rfl ?_
      refine r_zret rfl (by first | rfl | decide) dX1_sign_24 ?_
      exact ⟨by unfold sg; rw [if_neg hi], rfl⟩
    · --f
      exact absurd (by rw [e1, e3]; exact nI_le (Nat.not_lt.mp hi) (by omega)) h8
theorem t_X1_isDigit (h : PD S P len i) : Call G (d + 1) M_X1_isDigit [rv G 185] S (fun v u => v = some (bI (dgt (sg P len i))) ∧ u = S) := by
  refine call_of (lo := [(0, rv G 185)]) (by decide +kernel) (Nat.le_of_ble_eq_true rfl) rfl ?_
  refine r_aload_n dX1_isDigit_0 0 rfl ?_
  refine r_callViF (As := []) c_X1_sign (by first | assumption | rfl) l_X1_32 rfl rfl rfl (Nat.le_of_ble_eq_true rfl) dX1_isDigit_1 (t_X1_sign h) ?_
  refine r_bipush dX1_isDigit_4 (v := 48) (by decide +kernel) ?_
  refine r_icmp_lt dX1_isDigit_6 (tgt := 22) (by decide) (fun h6 => ?_) (fun h6 => ?_)
  · --t
    refine r_iconst dX1_isDigit_22 (v := 0) rfl ?_
    refine r_zret rfl (by first | rfl | decide) dX1_isDigit_23 ?_
    exact ⟨by first | (congr 1; simp_all [bI, dgt]; done) | (congr 1; simp_all [bI, dgt, Int32.le_iff_toInt_le, Int32.lt_iff_toInt_lt, i48, i57]; omega), rfl⟩
  · --f
    refine r_aload_n dX1_isDigit_9 0 rfl ?_
    refine r_callViF (As := []) c_X1_sign (by first | assumption | rfl) l_X1_32 rfl rfl rfl (Nat.le_of_ble_eq_true rfl) dX1_isDigit_10 (t_X1_sign h) ?_
    refine r_bipush dX1_isDigit_13 (v := 57) (by decide +kernel) ?_
    refine r_icmp_gt dX1_isDigit_15 (tgt := 22) (by decide) (fun h15 => ?_) (fun h15 => ?_)
    · --t
      refine r_iconst dX1_isDigit_22 (v := 0) rfl ?_
      refine r_zret rfl (by first | rfl | decide) dX1_isDigit_23 ?_
      exact ⟨by first | (congr 1; simp_all [bI, dgt]; done) | (congr 1; simp_all [bI, dgt, Int32.le_iff_toInt_le, Int32.lt_iff_toInt_lt, i48, i57]; omega), rfl⟩
    · --f
      refine r_iconst dX1_isDigit_18 (v := 1) rfl ?_
      refine r_goto dX1_isDigit_19 (tgt := 23) (by decide) ?_
      refine r_zret rfl (by first | rfl | decide) dX1_isDigit_23 ?_
      exact ⟨by first | (congr 1; simp_all [bI, dgt]; done) | (congr 1; simp_all [bI, dgt, Int32.le_iff_toInt_le, Int32.lt_iff_toInt_lt, i48, i57]; omega), rfl⟩
theorem t_X1_readSign {c : Int32} (hc : c ≠ 0) (h : PD S P len i) : Call G (d + 1) M_X1_readSign [rv G 185, .int c] S (fun v u => v = some (bI (decide (sg P len i = c))) ∧ PD u P len (if sg P len i = c then i + 1 else i) ∧ FP S u ∧ ∀ k, k ≠ 2 → u 185 k = S 185 k) := by
  refine call_of (lo := [(0, rv G 185), (1, .int c)]) (by decide +kernel) (Nat.le_of_ble_eq_true rfl) rfl ?_
  by_cases e : sg P len i = c
  · have hi : i < len := sg_lt (by rw [e]; exact hc)
    have e2 : S 185 2 + 1 = nI (i + 1) := by rw [h.1.2.2.1, nI_1]
    refine r_aload_n dX1_readSign_0 0 rfl ?_
    refine r_callViF (As := []) c_X1_sign (by first | assumption | rfl) l_X1_32 rfl rfl rfl (Nat.le_of_ble_eq_true rfl) dX1_readSign_1 (t_X1_sign h) ?_
    refine r_iload_n dX1_readSign_4 1 rfl ?_
    refine r_icmp_eq dX1_readSign_5 (tgt := 10) (by decide) (fun h5 => ?_) (fun h5 => ?_)
    · --t
      refine r_aload_n dX1_readSign_10 0 rfl ?_
      refine r_dup dX1_readSign_11 rfl ?_
      refine r_getI (by first | assumption | rfl) f_X1_21 rfl rfl dX1_readSign_12 ?_
      refine r_iconst dX1_readSign_15 (v := 1) rfl ?_
      refine r_iadd dX1_readSign_16 ?_
      refine r_putI (by first | assumption | rfl) f_X1_21 rfl rfl rfl rfl dX1_readSign_17 ?_
      refine r_iconst dX1_readSign_20 (v := 1) rfl ?_
      refine r_zret rfl (by first | rfl | decide) dX1_readSign_21 ?_
      rw [if_pos e, decide_eq_true e]
      exact ⟨rfl, h.at e2 (by omega), FP.rf.up, fun k hk => by rw [up1_s, upd, if_neg hk]⟩
    · --f
      exact absurd e h5
  ·
    refine r_aload_n dX1_readSign_0 0 rfl ?_
    refine r_callViF (As := []) c_X1_sign (by first | assumption | rfl) l_X1_32 rfl rfl rfl (Nat.le_of_ble_eq_true rfl) dX1_readSign_1 (t_X1_sign h) ?_
    refine r_iload_n dX1_readSign_4 1 rfl ?_
    refine r_icmp_eq dX1_readSign_5 (tgt := 10) (by decide) (fun h5 => ?_) (fun h5 => ?_)
    · --t
      exact absurd h5 e
    · --f
      refine r_iconst dX1_readSign_8 (v := 0) rfl ?_
      refine r_zret rfl (by first | rfl | decide) dX1_readSign_9 ?_
      rw [if_neg e, decide_eq_false e]
      exact ⟨rfl, h, FP.rf, fun k hk => rfl⟩
theorem t_X1_readTroop (h : PD S P len i) : Call G (d + 2) M_X1_readTroop [rv G 185] S (fun v u => v = some (bI (dgt (sg P len i))) ∧ PD u P len (if dgt (sg P len i) = true then i + 1 else i) ∧ FP S u ∧ (∀ k, k ≠ 2 → k ≠ 4 → u 185 k = S 185 k) ∧ (dgt (sg P len i) = true → u 185 4 = sg P len i - 48)) := by
  refine call_of (lo := [(0, rv G 185)]) (by decide +kernel) (Nat.le_of_ble_eq_true rfl) rfl ?_
  have hdg := @t_X1_isDigit G d S P len i h
  cases e : dgt (sg P len i)
  · rw [e] at hdg
    refine r_aload_n dX1_readTroop_0 0 rfl ?_
    refine r_callViF (As := []) c_X1_isDigit (by first | assumption | rfl) l_X1_49 rfl rfl rfl (Nat.le_of_ble_eq_true rfl) dX1_readTroop_1 hdg ?_
    refine r_if_ne dX1_readTroop_4 (tgt := 9) (by decide) (fun h4 => ?_) (fun h4 => ?_)
    · --t
      exact absurd rfl h4
    · --f
      refine r_iconst dX1_readTroop_7 (v := 0) rfl ?_
      refine r_zret rfl (by first | rfl | decide) dX1_readTroop_8 ?_
      exact ⟨rfl, h, FP.rf, fun _ _ _ => rfl, fun z => absurd z (by decide)⟩
  · rw [e] at hdg
    have hi := dgt_lt e
    have h1 := h.fld (k := 4) (x := sg P len i - 48) (by decide) (by decide)
    have e2 : up1 S 185 (upd (S 185) 4 (sg P len i - 48)) 185 2 + 1 = nI (i + 1) := by rw [h1.1.2.2.1, nI_1]
    refine r_aload_n dX1_readTroop_0 0 rfl ?_
    refine r_callViF (As := []) c_X1_isDigit (by first | assumption | rfl) l_X1_49 rfl rfl rfl (Nat.le_of_ble_eq_true rfl) dX1_readTroop_1 hdg ?_
    refine r_if_ne dX1_readTroop_4 (tgt := 9) (by decide) (fun h4 => ?_) (fun h4 => ?_)
    · --t
      refine r_aload_n dX1_readTroop_9 0 rfl ?_
      refine r_aload_n dX1_readTroop_10 0 rfl ?_
      refine r_callViF (As := []) c_X1_sign (by first | assumption | rfl) l_X1_32 rfl rfl rfl (Nat.le_of_ble_eq_true rfl) dX1_readTroop_11 (t_X1_sign h) ?_
      refine r_bipush dX1_readTroop_14 (v := 48) (by decide +kernel) ?_
      refine r_isub dX1_readTroop_16 ?_
      refine r_putI (by first | assumption | rfl) f_X1_52 rfl rfl rfl rfl dX1_readTroop_17 ?_
      refine r_aload_n dX1_readTroop_20 0 rfl ?_
      refine r_dup dX1_readTroop_21 rfl ?_
      refine r_getI (by first | assumption | rfl) f_X1_21 rfl rfl dX1_readTroop_22 ?_
      refine r_iconst dX1_readTroop_25 (v := 1) rfl ?_
      refine r_iadd dX1_readTroop_26 ?_
      refine r_putI (by first | assumption | rfl) f_X1_21 rfl rfl rfl rfl dX1_readTroop_27 ?_
      refine r_iconst dX1_readTroop_30 (v := 1) rfl ?_
      refine r_zret rfl (by first | rfl | decide) dX1_readTroop_31 ?_
      exact ⟨rfl, h1.at (m := i + 1) e2 (by omega), FP.rf.up.up, fun k k1 k2 => by simp only [up1_s, upd, if_neg k1, if_neg k2], fun _ => by simp only [up1_s, upd, reduceIte, Nat.reduceEqDiff]⟩
    · --f
      exact absurd h4 (by decide)
theorem rN_le {i : Nat} (h : i ≤ len) : (rN P len i).2.1 ≤ len ∧ i ≤ (rN P len i).2.1 := by
  unfold rN
  by_cases e : dgt (sg P len i) = true
  · rw [if_pos e]
    have := dgt_lt e
    by_cases e2 : 0 < sg P len i - 48 ∧ dgt (sg P len (i + 1)) = true
    · rw [if_pos e2]; have := dgt_lt e2.2; exact ⟨by show i + 2 ≤ len; omega, by show i ≤ i + 2; omega⟩
    · rw [if_neg e2]; exact ⟨by show i + 1 ≤ len; omega, by show i ≤ i + 1; omega⟩
  · rw [if_neg e]; exact ⟨h, Nat.le_refl _⟩
theorem t_X1_readNumber (h : PD S P len i) : Call G (d + 2) M_X1_readNumber [rv G 185] S (fun v u => v = some (bI (rN P len i).1) ∧ PD u P len (rN P len i).2.1 ∧ FP S u ∧ (∀ k, k ≠ 2 → k ≠ 5 → u 185 k = S 185 k) ∧ ((rN P len i).1 = true → u 185 5 = (rN P len i).2.2)) := by
  refine call_of (lo := [(0, rv G 185)]) (by decide +kernel) (Nat.le_of_ble_eq_true rfl) rfl ?_
  have hdg := @t_X1_isDigit G d S P len i h
  unfold rN
  cases e : dgt (sg P len i)
  · rw [e] at hdg
    rw [if_neg (by decide)]
    refine r_aload_n dX1_readNumber_0 0 rfl ?_
    refine r_callViF (As := []) c_X1_isDigit (by first | assumption | rfl) l_X1_49 rfl rfl rfl (Nat.le_of_ble_eq_true rfl) dX1_readNumber_1 hdg ?_
    refine r_if_ne dX1_readNumber_4 (tgt := 9) (by decide) (fun h4 => ?_) (fun h4 => ?_)
    · --t
      exact absurd rfl h4
    · --f
      refine r_iconst dX1_readNumber_7 (v := 0) rfl ?_
      refine r_zret rfl (by first | rfl | decide) dX1_readNumber_8 ?_
      exact ⟨rfl, h, FP.rf, fun _ _ _ => rfl, fun z => absurd (show false = true from z) (by decide)⟩
  · rw [e] at hdg
    rw [if_pos rfl]
    have hi := dgt_lt e
    have h1 := h.fld (k := 5) (x := sg P len i - 48) (by decide) (by decide)
    have e2 : up1 S 185 (upd (S 185) 5 (sg P len i - 48)) 185 2 + 1 = nI (i + 1) := by rw [h1.1.2.2.1, nI_1]
    have h2 := h1.at e2 (by omega)
    refine r_aload_n dX1_readNumber_0 0 rfl ?_
    refine r_callViF (As := []) c_X1_isDigit (by first | assumption | rfl) l_X1_49 rfl rfl rfl (Nat.le_of_ble_eq_true rfl) dX1_readNumber_1 hdg ?_
    refine r_if_ne dX1_readNumber_4 (tgt := 9) (by decide) (fun h4 => ?_) (fun h4 => ?_)
    · --t
      refine r_aload_n dX1_readNumber_9 0 rfl ?_
      refine r_aload_n dX1_readNumber_10 0 rfl ?_
      refine r_callViF (As := []) c_X1_sign (by first | assumption | rfl) l_X1_32 rfl rfl rfl (Nat.le_of_ble_eq_true rfl) dX1_readNumber_11 (t_X1_sign h) ?_
      refine r_bipush dX1_readNumber_14 (v := 48) (by decide +kernel) ?_
      refine r_isub dX1_readNumber_16 ?_
      refine r_putI (by first | assumption | rfl) f_X1_55 rfl rfl rfl rfl dX1_readNumber_17 ?_
      refine r_aload_n dX1_readNumber_20 0 rfl ?_
      refine r_dup dX1_readNumber_21 rfl ?_
      refine r_getI (by first | assumption | rfl) f_X1_21 rfl rfl dX1_readNumber_22 ?_
      refine r_iconst dX1_readNumber_25 (v := 1) rfl ?_
      refine r_iadd dX1_readNumber_26 ?_
      refine r_putI (by first | assumption | rfl) f_X1_21 rfl rfl rfl rfl dX1_readNumber_27 ?_
      refine at_gen (fun w hw => ?_)
      have g1 : PD w P len (i + 1) := by rw [hw]; exact h2
      have g2 : FP S w := by rw [hw]; exact FP.rf.up.up
      have g3 : ∀ k, k ≠ 2 → k ≠ 5 → w 185 k = S 185 k := fun k k1 k2 => by rw [hw]; simp only [up1_s, upd, if_neg k1, if_neg k2]
      have g4 : w 185 5 = sg P len i - 48 := by rw [hw]; simp only [up1_s, upd, reduceIte, Nat.reduceEqDiff]
      clear hw
      have hdg2 := @t_X1_isDigit G d w P len (i + 1) g1
      by_cases e3 : 0 < sg P len i - 48
      · by_cases e4 : dgt (sg P len (i + 1)) = true
        · rw [if_pos ⟨e3, e4⟩]
          rw [e4] at hdg2
          have hi2 := dgt_lt e4
          have g5 := g1.fld (k := 5) (x := w 185 5 * 10 + sg P len (i + 1) - 48) (by decide) (by decide)
          have e5 : up1 w 185 (upd (w 185) 5 (w 185 5 * 10 + sg P len (i + 1) - 48)) 185 2 + 1 = nI (i + 2) := by rw [g5.1.2.2.1, nI_1]
          refine r_aload_n dX1_readNumber_30 0 rfl ?_
          refine r_getI (by first | assumption | rfl) f_X1_55 rfl rfl dX1_readNumber_31 ?_
          refine r_if_le dX1_readNumber_34 (tgt := 73) (by decide) (fun h34 => ?_) (fun h34 => ?_)
          · --t
            exact absurd (by rw [g4] at h34; exact h34) (Int32.not_le.mpr e3)
          · --f
            refine r_aload_n dX1_readNumber_37 0 rfl ?_
            refine r_callViF (As := []) c_X1_isDigit (by first | assumption | rfl) l_X1_49 rfl rfl rfl (Nat.le_of_ble_eq_true rfl) dX1_readNumber_38 hdg2 ?_
            refine r_if_eq dX1_readNumber_41 (tgt := 73) (by decide) (fun h41 => ?_) (fun h41 => ?_)
            · --t
              exact absurd h41 (by decide)
            · --f
              refine r_aload_n dX1_readNumber_44 0 rfl ?_
              refine r_aload_n dX1_readNumber_45 0 rfl ?_
              refine r_getI (by first | assumption | rfl) f_X1_55 rfl rfl dX1_readNumber_46 ?_
              refine r_bipush dX1_readNumber_49 (v := 10) (by decide +kernel) ?_
              refine r_imul dX1_readNumber_51 ?_
              refine r_aload_n dX1_readNumber_52 0 rfl ?_
              refine r_callViF (As := []) c_X1_sign (by first | assumption | rfl) l_X1_32 rfl rfl rfl (Nat.le_of_ble_eq_true rfl) dX1_readNumber_53 (t_X1_sign g1) ?_
              refine r_iadd dX1_readNumber_56 ?_
              refine r_bipush dX1_readNumber_57 (v := 48) (by decide +kernel) ?_
              refine r_isub dX1_readNumber_59 ?_
              refine r_putI (by first | assumption | rfl) f_X1_55 rfl rfl rfl rfl dX1_readNumber_60 ?_
              refine r_aload_n dX1_readNumber_63 0 rfl ?_
              refine r_dup dX1_readNumber_64 rfl ?_
              refine r_getI (by first | assumption | rfl) f_X1_21 rfl rfl dX1_readNumber_65 ?_
              refine r_iconst dX1_readNumber_68 (v := 1) rfl ?_
              refine r_iadd dX1_readNumber_69 ?_
              refine r_putI (by first | assumption | rfl) f_X1_21 rfl rfl rfl rfl dX1_readNumber_70 ?_
              refine r_iconst dX1_readNumber_73 (v := 1) rfl ?_
              refine r_zret rfl (by first | rfl | decide) dX1_readNumber_74 ?_
              exact ⟨rfl, g5.at (m := i + 2) e5 (by omega), g2.up.up, fun k k1 k2 => by simp only [up1_s, upd, if_neg k1, if_neg k2]; exact g3 k k1 k2, fun _ => by simp only [up1_s, upd, reduceIte, Nat.reduceEqDiff, g4]⟩
        · rw [if_neg (fun z => e4 z.2)]
          rw [Bool.not_eq_true] at e4
          rw [e4] at hdg2
          refine r_aload_n dX1_readNumber_30 0 rfl ?_
          refine r_getI (by first | assumption | rfl) f_X1_55 rfl rfl dX1_readNumber_31 ?_
          refine r_if_le dX1_readNumber_34 (tgt := 73) (by decide) (fun h34 => ?_) (fun h34 => ?_)
          · --t
            exact absurd (by rw [g4] at h34; exact h34) (Int32.not_le.mpr e3)
          · --f
            refine r_aload_n dX1_readNumber_37 0 rfl ?_
            refine r_callViF (As := []) c_X1_isDigit (by first | assumption | rfl) l_X1_49 rfl rfl rfl (Nat.le_of_ble_eq_true rfl) dX1_readNumber_38 hdg2 ?_
            refine r_if_eq dX1_readNumber_41 (tgt := 73) (by decide) (fun h41 => ?_) (fun h41 => ?_)
            · --t
              refine r_iconst dX1_readNumber_73 (v := 1) rfl ?_
              refine r_zret rfl (by first | rfl | decide) dX1_readNumber_74 ?_
              exact ⟨rfl, g1, g2, g3, fun _ => g4⟩
            · --f
              exact absurd rfl h41
      · rw [if_neg (fun z => e3 z.1)]
        refine r_aload_n dX1_readNumber_30 0 rfl ?_
        refine r_getI (by first | assumption | rfl) f_X1_55 rfl rfl dX1_readNumber_31 ?_
        refine r_if_le dX1_readNumber_34 (tgt := 73) (by decide) (fun h34 => ?_) (fun h34 => ?_)
        · --t
          refine r_iconst dX1_readNumber_73 (v := 1) rfl ?_
          refine r_zret rfl (by first | rfl | decide) dX1_readNumber_74 ?_
          exact ⟨rfl, g1, g2, g3, fun _ => g4⟩
        · --f
          exact absurd (by rw [g4] at h34; exact Int32.not_le.mp h34) e3
    · --f
      exact absurd h4 (by decide)
end PADR
