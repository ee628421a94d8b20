/-! the class's History: cells 19 and 20, seven States from 21 on -/
def pl (m : Nat) : Nat := 21 + 18 * (m % 7)
theorem kdP {m : Nat} : kd (pl m) = 2 := (by decide +kernel : ∀ m, m < 7 → kd (21 + 18 * m) = 2) (m % 7) (Nat.mod_lt _ (by decide))
/-- n states are kept, h 0 is the oldest; the oldest lies at o -/
def HPo (S : mS) (o n : Nat) (h : Nat → mN) : Prop := (o < 7 ∧ S 19 1 = nI o) ∧ (n ≤ 6 ∧ S 19 2 = nI n) ∧ ∀ i, i < n → WN (h i) ∧ SP S (pl (o + i)) (h i)
def HP (S : mS) (n : Nat) (h : Nat → mN) : Prop := ∃ o, HPo S o n h
/-- and N is noted behind them -/
def HN (S : mS) (n : Nat) (h : Nat → mN) (N : mN) : Prop := ∃ o, HPo S o n h ∧ WN N ∧ SP S (pl (o + n)) N
theorem HN.hp {S : mS} {n : Nat} {h : Nat → mN} {N : mN} (g : HN S n h N) : HP S n h := by obtain ⟨o, g, -⟩ := g; exact ⟨o, g⟩
def psN (n : Nat) : Nat := if n < 6 then n + 1 else 6
def psH (n : Nat) (h : Nat → mN) (N : mN) : Nat → mN := if n < 6 then (fun i => if i = n then N else h i) else (fun i => if i < 5 then h (i + 1) else N)
/-- the cells of the history -/
def FH (S u : mS) : Prop := ∀ c, (c < 19 ∨ 147 ≤ c) → u c = S c
theorem FH.rf {S : mS} : FH S S := fun _ _ => rfl
theorem FH.tr {S u w : mS} (h : FH S u) (g : FH u w) : FH S w := fun c hc => (g c hc).trans (h c hc)
theorem HPo.off {S u : mS} {o n : Nat} {h : Nat → mN} (g : HPo S o n h) (k : ∀ c, 19 ≤ c → c < 147 → u c = S c) : HPo u o n h := by
  refine ⟨by rw [k 19 (by omega) (by omega)]; exact g.1, by rw [k 19 (by omega) (by omega)]; exact g.2.1, fun i hi => ⟨(g.2.2 i hi).1, (g.2.2 i hi).2.off (g.2.2 i hi).1.cn.2 (fun c h1 h2 => k c (by unfold pl at h1; omega) (by unfold pl at h2; omega))⟩⟩
theorem HP.off {S u : mS} {n : Nat} {h : Nat → mN} (g : HP S n h) (k : ∀ c, 19 ≤ c → c < 147 → u c = S c) : HP u n h := by obtain ⟨o, g⟩ := g; exact ⟨o, g.off k⟩
theorem HN.off {S u : mS} {n : Nat} {h : Nat → mN} {N : mN} (g : HN S n h N) (k : ∀ c, 19 ≤ c → c < 147 → u c = S c) : HN u n h N := by
  obtain ⟨o, g, w, g2⟩ := g
  exact ⟨o, g.off k, w, g2.off w.cn.2 (fun c h1 h2 => k c (by unfold pl at h1; omega) (by unfold pl at h2; omega))⟩
theorem nI_7 {x y : Int32} {a b : Nat} (hx : x = nI a) (hy : y = nI b) (ha : a < 100) (hb : b < 100) : (x + y) - (x + y) / 7 * 7 = nI ((a + b) % 7) := by
  rw [hx, hy, nI_add]; exact pk_rem (d := 7) (by omega) (by omega) (by omega)
section HIST
variable {G : mG} {d : Nat} {S : mS} {n : Nat} {h : Nat → mN} {N : mN}
theorem t_X0_note (hP : HP S n h) (hW : WN N) (hN : SP S 1 N) : Call G (d + 6) M_X0_note [rv G 19, rv G 1] S (fun v u => v = none ∧ HN u n h N ∧ FH S u) := by
  refine call_of (lo := [(0, rv G 19), (1, rv G 1)]) (by decide +kernel) (Nat.le_of_ble_eq_true rfl) rfl ?_
  obtain ⟨o, ⟨ho, eo⟩, ⟨hn, en⟩, hi⟩ := hP
  have hj : (o + n) % 7 < ln 20 := show (o + n) % 7 < 7 from Nat.mod_lt _ (by decide)
  have h1 : kd 1 = 2 := rfl
  refine r_aload_n dX0_note_0 0 rfl ?_
  refine r_getR (b := 20) (by first | assumption | rfl) f_X0_13 rfl rfl dX0_note_1 rfl ?_
  refine r_aload_n dX0_note_4 0 rfl ?_
  refine r_getI (by first | assumption | rfl) f_X0_18 rfl rfl dX0_note_5 ?_
  refine r_aload_n dX0_note_8 0 rfl ?_
  refine r_getI (by first | assumption | rfl) f_X0_22 rfl rfl dX0_note_9 ?_
  refine r_iadd dX0_note_12 ?_
  refine r_bipush dX0_note_13 (v := 7) (by decide +kernel) ?_
  refine r_irem dX0_note_15 (by decide) ?_
  refine r_aald9 (j := _) (by first | assumption | rfl) (nI_7 eo en (by omega) (by omega)) (by first | assumption | decide) (show rf 20 ((o + n) % 7) = pl (o + n) from rfl) dX0_note_16 ?_
  refine r_aload_n dX0_note_17 1 rfl ?_
  refine r_callVv (As := [_]) c_X2_copyFrom kdP l_X0_25 rfl rfl rfl (Nat.le_of_ble_eq_true rfl) dX0_note_18 (t_X2_copyFrom kdP h1 (by unfold pl; omega) hW hN) (fun u18 q18 => ?_)
  obtain ⟨-, hP2, hF2⟩ := q18
  refine r_vret rfl dX0_note_21 ?_
  refine ⟨rfl, ⟨o, ⟨⟨ho, ?_⟩, ⟨hn, ?_⟩, fun i hi2 => ⟨(hi i hi2).1, (hi i hi2).2.off (hi i hi2).1.cn.2 (fun c c1 c2 => hF2 c ?_)⟩⟩, hW, hP2⟩, fun c hc => hF2 c (by unfold pl; omega)⟩
  · rw [hF2 19 (by unfold pl; omega)]; exact eo
  · rw [hF2 19 (by unfold pl; omega)]; exact en
  · unfold pl at c1 c2 ⊢; omega
theorem t_X0_keepNoted (hP : HN S n h N) : Call G d M_X0_keepNoted [rv G 19] S (fun v u => v = none ∧ HP u (psN n) (psH n h N) ∧ FH S u) := by
  refine call_of (lo := [(0, rv G 19)]) (by decide +kernel) (Nat.le_of_ble_eq_true rfl) rfl ?_
  obtain ⟨o, ⟨⟨ho, eo⟩, ⟨hn, en⟩, hi⟩, hW, hN⟩ := hP
  have off : ∀ {f : Nat → Int32} {b : Nat} {N' : mN}, WN N' → SP S (pl b) N' → SP (up1 S 19 f) (pl b) N' := fun w z => z.off w.cn.2 (fun c c1 c2 => up1_n (by unfold pl at c1; omega))
  refine r_aload_n dX0_keepNoted_0 0 rfl ?_
  refine r_getI (by first | assumption | rfl) f_X0_22 rfl rfl dX0_keepNoted_1 ?_
  refine r_bipush dX0_keepNoted_4 (v := 6) (by decide +kernel) ?_
  refine r_icmp_ge dX0_keepNoted_6 (tgt := 22) (by decide) (fun h6 => ?_) (fun h6 => ?_)
  · --t
    refine r_aload_n dX0_keepNoted_22 0 rfl ?_
    refine r_aload_n dX0_keepNoted_23 0 rfl ?_
    refine r_getI (by first | assumption | rfl) f_X0_18 rfl rfl dX0_keepNoted_24 ?_
    refine r_iconst dX0_keepNoted_27 (v := 1) rfl ?_
    refine r_iadd dX0_keepNoted_28 ?_
    refine r_bipush dX0_keepNoted_29 (v := 7) (by decide +kernel) ?_
    refine r_irem dX0_keepNoted_31 (by decide) ?_
    refine r_putI (by first | assumption | rfl) f_X0_18 rfl rfl rfl rfl dX0_keepNoted_32 ?_
    refine r_vret rfl dX0_keepNoted_35 ?_
    rw [en, show (6 : Int32) = nI 6 from rfl, nI_leI (by omega) (by omega)] at h6
    refine ⟨rfl, ?_, fun c hc => up1_n (by omega)⟩
    first
      | (have h7 : n < 6 := by omega
         refine ⟨o, ⟨ho, by simp only [up1_s, upd, reduceIte, Nat.reduceEqDiff]; exact eo⟩, ⟨by unfold psN; rw [if_pos h7]; omega, by simp only [up1_s, upd, reduceIte]; rw [en, nI_1]; unfold psN; rw [if_pos h7]⟩, fun i hi2 => ?_⟩
         unfold psN at hi2
         unfold psH
         rw [if_pos h7] at hi2 ⊢
         by_cases e : i = n
         · subst e; simp only [reduceIte]; exact ⟨hW, off hW hN⟩
         · simp only [e, reduceIte]; exact ⟨(hi i (by omega)).1, off (hi i (by omega)).1 (hi i (by omega)).2⟩)
      | (have h7 : ¬ n < 6 := by omega
         obtain rfl : n = 6 := by omega
         refine ⟨(o + 1) % 7, ⟨Nat.mod_lt _ (by decide), by simp only [up1_s, upd, reduceIte]; exact nI_7 eo (b := 1) rfl (by omega) (by omega)⟩, ⟨by decide, by simp only [up1_s, upd, reduceIte, Nat.reduceEqDiff]; rw [en]; rfl⟩, fun i hi2 => ?_⟩
         unfold psN at hi2
         unfold psH
         rw [if_neg h7] at hi2 ⊢
         have e1 : pl ((o + 1) % 7 + i) = pl (o + (i + 1)) := by unfold pl; omega
         rw [e1]
         by_cases e : i < 5
         · simp only [e, reduceIte]; exact ⟨(hi (i + 1) (by omega)).1, off (hi (i + 1) (by omega)).1 (hi (i + 1) (by omega)).2⟩
         · obtain rfl : i = 5 := by omega
           simp only [e, reduceIte]; exact ⟨hW, off hW hN⟩)
  · --f
    refine r_aload_n dX0_keepNoted_9 0 rfl ?_
    refine r_dup dX0_keepNoted_10 rfl ?_
    refine r_getI (by first | assumption | rfl) f_X0_22 rfl rfl dX0_keepNoted_11 ?_
    refine r_iconst dX0_keepNoted_14 (v := 1) rfl ?_
    refine r_iadd dX0_keepNoted_15 ?_
    refine r_putI (by first | assumption | rfl) f_X0_22 rfl rfl rfl rfl dX0_keepNoted_16 ?_
    refine r_goto dX0_keepNoted_19 (tgt := 35) (by decide) ?_
    refine r_vret rfl dX0_keepNoted_35 ?_
    rw [en, show (6 : Int32) = nI 6 from rfl, nI_leI (by omega) (by omega)] at h6
    refine ⟨rfl, ?_, fun c hc => up1_n (by omega)⟩
    first
      | (have h7 : n < 6 := by omega
         refine ⟨o, ⟨ho, by simp only [up1_s, upd, reduceIte, Nat.reduceEqDiff]; exact eo⟩, ⟨by unfold psN; rw [if_pos h7]; omega, by simp only [up1_s, upd, reduceIte]; rw [en, nI_1]; unfold psN; rw [if_pos h7]⟩, fun i hi2 => ?_⟩
         unfold psN at hi2
         unfold psH
         rw [if_pos h7] at hi2 ⊢
         by_cases e : i = n
         · subst e; simp only [reduceIte]; exact ⟨hW, off hW hN⟩
         · simp only [e, reduceIte]; exact ⟨(hi i (by omega)).1, off (hi i (by omega)).1 (hi i (by omega)).2⟩)
      | (have h7 : ¬ n < 6 := by omega
         obtain rfl : n = 6 := by omega
         refine ⟨(o + 1) % 7, ⟨Nat.mod_lt _ (by decide), by simp only [up1_s, upd, reduceIte]; exact nI_7 eo (b := 1) rfl (by omega) (by omega)⟩, ⟨by decide, by simp only [up1_s, upd, reduceIte, Nat.reduceEqDiff]; rw [en]; rfl⟩, fun i hi2 => ?_⟩
         unfold psN at hi2
         unfold psH
         rw [if_neg h7] at hi2 ⊢
         have e1 : pl ((o + 1) % 7 + i) = pl (o + (i + 1)) := by unfold pl; omega
         rw [e1]
         by_cases e : i < 5
         · simp only [e, reduceIte]; exact ⟨(hi (i + 1) (by omega)).1, off (hi (i + 1) (by omega)).1 (hi (i + 1) (by omega)).2⟩
         · obtain rfl : i = 5 := by omega
           simp only [e, reduceIte]; exact ⟨hW, off hW hN⟩)
end HIST
