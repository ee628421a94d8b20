/-! the class's State and History. N = (globals: 0 patience, 1 away, 2 minutes, 3 troops, 4 early comings; the troops) -/
abbrev mN : Type := (Nat → Int32) × (Nat → mT)
def cnt (N : mN) : Nat := (N.1 3).toNatClampNeg
def WN (N : mN) : Prop := (∃ c, N.1 3 = nI c ∧ c ≤ 5) ∧ ∀ t, t < cnt N → WF (N.2 t)
theorem WN.cn {N : mN} (h : WN N) : N.1 3 = nI (cnt N) ∧ cnt N ≤ 5 := by
  obtain ⟨⟨c, h1, h2⟩, -⟩ := h
  have : cnt N = c := by unfold cnt; rw [h1]; exact nI_clamp (by omega)
  rw [this]; exact ⟨h1, h2⟩
def SP (S : mS) (b : Nat) (N : mN) : Prop := (S (b + 1) 0 = N.1 0 ∧ S (b + 1) 1 = N.1 1 ∧ S b 2 = N.1 3 ∧ S b 3 = N.1 2 ∧ S b 4 = N.1 4) ∧ ∀ t, t < cnt N → TP S (b + 3 + 3 * t) (N.2 t)
def FS (b : Nat) (S u : mS) : Prop := ∀ c, (c < b ∨ b + 18 ≤ c) → u c = S c
theorem FS.rf {b : Nat} {S : mS} : FS b S S := fun _ _ => rfl
theorem FS.tr {b : Nat} {S u w : mS} (h : FS b S u) (g : FS b u w) : FS b S w := fun c hc => (g c hc).trans (h c hc)
theorem FS.up {b c : Nat} {S u : mS} {f : Nat → Int32} (h : FS b S u) (h1 : b ≤ c) (h2 : c < b + 18) : FS b S (up1 u c f) := fun x hx => (up1_n (by omega)).trans (h x hx)
theorem FS.fr {b t : Nat} {S u w : mS} (h : FS b S u) (ht : t < 5) (g : FR (b + 3 + 3 * t) u w) : FS b S w := fun x hx => (g x (by omega) (by omega) (by omega)).trans (h x hx)
theorem SP.off {S u : mS} {b : Nat} {N : mN} (h : SP S b N) (hc : cnt N ≤ 5) (g : ∀ c, b ≤ c → c < b + 18 → u c = S c) : SP u b N := by
  refine ⟨?_, fun t ht => ?_⟩
  · rw [g (b + 1) (by omega) (by omega), g b (by omega) (by omega)]; exact h.1
  · exact (h.2 t ht).off (fun x hx => g x (by omega) (by omega))
theorem kdS {b : Nat} (h : kd b = 2) : kd (b + 1) = 6 ∧ kd (b + 2) = 10 ∧ ln (b + 1) = 2 ∧ ln (b + 2) = 5 ∧ rf b 0 = b + 1 ∧ rf b 1 = b + 2 ∧ (∀ t, rf (b + 2) t = b + 3 + 3 * t) ∧ (∀ t, t < 5 → kd (b + 3 + 3 * t) = 3) := by
  have h2 := (by decide +kernel : ∀ b, b < 190 → kd b = 2 → (kd (b + 1) = 6 ∧ kd (b + 2) = 10 ∧ ln (b + 1) = 2 ∧ ln (b + 2) = 5) ∧ ∀ t, t < 5 → kd (b + 3 + 3 * t) = 3) b (kd_lt (by omega)) h
  refine ⟨h2.1.1, h2.1.2.1, h2.1.2.2.1, h2.1.2.2.2, ?_, ?_, ?_, h2.2⟩
  · unfold rf; rw [h]; rfl
  · unfold rf; rw [h]; rfl
  · intro t; unfold rf; rw [h2.1.2.1]; show b + 2 + 1 + 3 * t = b + 3 + 3 * t; omega
theorem kdS2 {a b : Nat} (ha : kd a = 2) (hb : kd b = 2) (h : a ≠ b) : a + 18 ≤ b ∨ b + 18 ≤ a := by
  have key := (by decide +kernel : ∀ b, b < 190 → kd b = 2 → b = 1 ∨ b = 148 ∨ b = 166 ∨ (21 ≤ b ∧ (b - 21) % 18 = 0 ∧ b ≤ 129))
  have h1 := key a (kd_lt (by omega)) ha
  have h2 := key b (kd_lt (by omega)) hb
  omega
theorem cpy2 {f g : Nat → Int32} {k : Nat} (h : k < 2) : va_cpy f g 0 0 2 k = f k := by rw [pk_cpy_in (Nat.zero_le _) (by omega)]; simp
section STATE
variable {G : mG} {d : Nat} {S0 : mS} {a b : Nat} {N : mN} {Q : Option Int32 → mS → Prop}
theorem lp_X2_copyFrom (ha : kd a = 2) (hb : kd b = 2) (hab : a ≠ b) (hW : WN N) (hP : SP S0 b N) (hx : ∀ u, SP u a N → FS a S0 u → Q none u) : ∀ n t S, n + t = cnt N → (S (a + 1) 0 = N.1 0 ∧ S (a + 1) 1 = N.1 1 ∧ S a 2 = N.1 3 ∧ S a 3 = N.1 2 ∧ S a 4 = N.1 4) → (∀ i, i < t → TP S (a + 3 + 3 * i) (N.2 i)) → FS a S0 S → At G (d + 5) M_X2_copyFrom Q 40 [(0, rv G a), (1, rv G b), (2, .int (nI t))] [] S := by
  obtain ⟨k1, k2, l1, l2, f1, f2, f3, k3⟩ := kdS ha
  obtain ⟨g1, g2, m1, m2, e1, e2, e3, g3⟩ := kdS hb
  obtain ⟨hc, hc5⟩ := hW.cn
  have hd := kdS2 ha hb hab
  intro n
  induction n with
  | zero =>
    intro t S ht h1 h2 hF
    obtain rfl : t = cnt N := by omega
    refine r_iload_n dX2_copyFrom_40 2 rfl ?_
    refine r_aload_n dX2_copyFrom_41 0 rfl ?_
    refine r_getI (by first | assumption | rfl) f_X2_28 rfl rfl dX2_copyFrom_42 ?_
    refine r_icmp_ge dX2_copyFrom_45 (tgt := 69) (by decide) (fun h45 => ?_) (fun h45 => ?_)
    · --t
      refine r_vret rfl dX2_copyFrom_69 ?_
      exact hx _ ⟨h1, h2⟩ hF
    · --f
      exact absurd (by rw [h1.2.2.1, hc]; exact Int32.le_refl _) h45
  | succ n ih =>
    intro t S ht h1 h2 hF
    have ht5 : t < 5 := by omega
    have hl : t < ln (a + 2) := by rw [l2]; exact ht5
    have hl' : t < ln (b + 2) := by rw [m2]; exact ht5
    have hta := k3 t ht5
    have htb := g3 t ht5
    have hTb : TP S (b + 3 + 3 * t) (N.2 t) := (hP.2 t (by omega)).off (fun x hx => hF x (by omega))
    refine r_iload_n dX2_copyFrom_40 2 rfl ?_
    refine r_aload_n dX2_copyFrom_41 0 rfl ?_
    refine r_getI (by first | assumption | rfl) f_X2_28 rfl rfl dX2_copyFrom_42 ?_
    refine r_icmp_ge dX2_copyFrom_45 (tgt := 69) (by decide) (fun h45 => ?_) (fun h45 => ?_)
    · --t
      exact absurd (by rw [h1.2.2.1, hc] at h45; exact h45) (nI_ge (show t < cnt N by omega) (by omega))
    · --f
      refine r_aload_n dX2_copyFrom_48 0 rfl ?_
      refine r_getR (by first | assumption | rfl) f_X2_17 rfl rfl dX2_copyFrom_49 (by first | assumption | rfl) ?_
      refine r_iload_n dX2_copyFrom_52 2 rfl ?_
      refine r_aald10 (j := _) (by first | assumption | rfl) (by first | assumption | rfl) (by first | assumption | decide) (f3 t) dX2_copyFrom_53 ?_
      refine r_aload_n dX2_copyFrom_54 1 rfl ?_
      refine r_getR (by first | assumption | rfl) f_X2_17 rfl rfl dX2_copyFrom_55 (by first | assumption | rfl) ?_
      refine r_iload_n dX2_copyFrom_58 2 rfl ?_
      refine r_aald10 (j := _) (by first | assumption | rfl) (by first | assumption | rfl) (by first | assumption | decide) (e3 t) dX2_copyFrom_59 ?_
      refine r_callVv (As := [_]) c_X3_copyFrom (by first | assumption | rfl) l_X2_38 rfl rfl rfl (Nat.le_of_ble_eq_true rfl) dX2_copyFrom_60 (t_X3_copyFrom hta htb (by omega) hTb) (fun u60 q60 => ?_)
      obtain ⟨-, hT2, hF2⟩ := q60
      refine r_iinc (lo2 := [(0, _), (1, _), (2, _)]) dX2_copyFrom_63 2 rfl (w := 1) rfl (Nat.le_of_ble_eq_true rfl) [1, 2, 0] rfl ?_
      refine r_goto dX2_copyFrom_66 (tgt := 40) (by decide) ?_
      rw [nI_1]
      refine ih (t + 1) _ (by omega) ?_ (fun i hi => ?_) (hF.fr ht5 hF2)
      · rw [hF2 (a + 1) (by omega) (by omega) (by omega), hF2 a (by omega) (by omega) (by omega)]; exact h1
      · by_cases e : i = t
        · subst e; exact hT2
        · exact (h2 i (by omega)).off (fun x hx => hF2 x (by omega) (by omega) (by omega))
theorem t_X2_copyFrom {S : mS} (ha : kd a = 2) (hb : kd b = 2) (hab : a ≠ b) (hW : WN N) (hP : SP S b N) : Call G (d + 5) M_X2_copyFrom [rv G a, rv G b] S (fun v u => v = none ∧ SP u a N ∧ FS a S u) := by
  refine call_of (lo := [(0, rv G a), (1, rv G b)]) (by decide +kernel) (Nat.le_of_ble_eq_true rfl) rfl ?_
  obtain ⟨k1, k2, l1, l2, f1, f2, f3, k3⟩ := kdS ha
  obtain ⟨g1, g2, m1, m2, e1, e2, e3, g3⟩ := kdS hb
  have hd := kdS2 ha hb hab
  refine r_aload_n dX2_copyFrom_0 1 rfl ?_
  refine r_getR (by first | assumption | rfl) f_X2_9 rfl rfl dX2_copyFrom_1 (by first | assumption | rfl) ?_
  refine r_iconst dX2_copyFrom_4 (v := 0) rfl ?_
  refine r_aload_n dX2_copyFrom_5 0 rfl ?_
  refine r_getR (by first | assumption | rfl) f_X2_9 rfl rfl dX2_copyFrom_6 (by first | assumption | rfl) ?_
  refine r_iconst dX2_copyFrom_9 (v := 0) rfl ?_
  refine r_iconst dX2_copyFrom_10 (v := 2) rfl ?_
  refine r_copy (sp := 0) (dp := 0) (n := 2) (by first | assumption | rfl) (by first | assumption | rfl) rfl rfl rfl (by rw [m1]; decide) (by rw [l1]; decide) l_X2_22 rfl (by omega) dX2_copyFrom_11 ?_
  refine r_aload_n dX2_copyFrom_14 0 rfl ?_
  refine r_aload_n dX2_copyFrom_15 1 rfl ?_
  refine r_getI (by first | assumption | rfl) f_X2_28 rfl rfl dX2_copyFrom_16 ?_
  refine r_putI (by first | assumption | rfl) f_X2_28 rfl rfl rfl rfl dX2_copyFrom_19 ?_
  refine r_aload_n dX2_copyFrom_22 0 rfl ?_
  refine r_aload_n dX2_copyFrom_23 1 rfl ?_
  refine r_getI (by first | assumption | rfl) f_X2_32 rfl rfl dX2_copyFrom_24 ?_
  refine r_putI (by first | assumption | rfl) f_X2_32 rfl rfl rfl rfl dX2_copyFrom_27 ?_
  refine r_aload_n dX2_copyFrom_30 0 rfl ?_
  refine r_aload_n dX2_copyFrom_31 1 rfl ?_
  refine r_getI (by first | assumption | rfl) f_X2_35 rfl rfl dX2_copyFrom_32 ?_
  refine r_putI (by first | assumption | rfl) f_X2_35 rfl rfl rfl rfl dX2_copyFrom_35 ?_
  refine r_iconst dX2_copyFrom_38 (v := 0) rfl ?_
  refine r_istore_n (lo2 := [(0, _), (1, _), (2, _)]) dX2_copyFrom_39 rfl (Nat.le_of_ble_eq_true rfl) [1, 2, 0] rfl ?_
  refine at_gen (fun w hw => ?_)
  refine lp_X2_copyFrom (S0 := S) ha hb hab hW hP (fun u h1 h2 => ⟨rfl, h1, h2⟩) (cnt N) 0 w (by omega) ?_ (fun i hi => absurd hi (by omega)) ?_
  · have n1 : (b = a) = False := by simp; omega
    have n2 : (b = a + 1) = False := by simp; omega
    rw [hw]; simp only [up1, upd, reduceIte, Nat.reduceEqDiff, ap1, ap3, n1, n2, cpy2 (show 0 < 2 by omega), cpy2 (show 1 < 2 by omega)]; exact hP.1
  · rw [hw]; exact (((FS.rf.up (by omega) (by omega)).up (by omega) (by omega)).up (by omega) (by omega)).up (by omega) (by omega)
def sumN (f : mT → Int32) (N : mN) : Nat → Int32
  | 0 => 0
  | n + 1 => sumN f N n + f (N.2 n)
theorem lp_X2_hikes {S : mS} (ha : kd a = 2) (hW : WN N) (hP : SP S a N) (hx : Q (some (sumN (fun T => T.1 3) N (cnt N))) S) : ∀ n t, n + t = cnt N → At G d M_X2_hikes Q 4 [(0, rv G a), (1, .int (sumN (fun T => T.1 3) N t)), (2, .int (nI t))] [] S := by
  obtain ⟨k1, k2, l1, l2, f1, f2, f3, k3⟩ := kdS ha
  obtain ⟨hc, hc5⟩ := hW.cn
  intro n
  induction n with
  | zero =>
    intro t ht
    obtain rfl : t = cnt N := by omega
    refine r_iload_n dX2_hikes_4 2 rfl ?_
    refine r_aload_n dX2_hikes_5 0 rfl ?_
    refine r_getI (by first | assumption | rfl) f_X2_28 rfl rfl dX2_hikes_6 ?_
    refine r_icmp_ge dX2_hikes_9 (tgt := 30) (by decide) (fun h9 => ?_) (fun h9 => ?_)
    · --t
      refine r_iload_n dX2_hikes_30 1 rfl ?_
      refine r_iret rfl dX2_hikes_31 ?_
      exact hx
    · --f
      exact absurd (by rw [hP.1.2.2.1, hc]; exact Int32.le_refl _) h9
  | succ n ih =>
    intro t ht
    have ht5 : t < 5 := by omega
    have hl : t < ln (a + 2) := by rw [l2]; exact ht5
    have hta := k3 t ht5
    refine r_iload_n dX2_hikes_4 2 rfl ?_
    refine r_aload_n dX2_hikes_5 0 rfl ?_
    refine r_getI (by first | assumption | rfl) f_X2_28 rfl rfl dX2_hikes_6 ?_
    refine r_icmp_ge dX2_hikes_9 (tgt := 30) (by decide) (fun h9 => ?_) (fun h9 => ?_)
    · --t
      exact absurd (by rw [hP.1.2.2.1, hc] at h9; exact h9) (nI_ge (show t < cnt N by omega) (by omega))
    · --f
      refine r_iload_n dX2_hikes_12 1 rfl ?_
      refine r_aload_n dX2_hikes_13 0 rfl ?_
      refine r_getR (by first | assumption | rfl) f_X2_17 rfl rfl dX2_hikes_14 (by first | assumption | rfl) ?_
      refine r_iload_n dX2_hikes_17 2 rfl ?_
      refine r_aald10 (j := _) (by first | assumption | rfl) (by first | assumption | rfl) (by first | assumption | decide) (f3 t) dX2_hikes_18 ?_
      refine r_getI (by first | assumption | rfl) f_X2_42 rfl rfl dX2_hikes_19 ?_
      refine r_iadd dX2_hikes_22 ?_
      refine r_istore_n (lo2 := [(0, _), (1, _), (2, _)]) dX2_hikes_23 rfl (Nat.le_of_ble_eq_true rfl) [1, 0, 2] rfl ?_
      refine r_iinc (lo2 := [(0, _), (1, _), (2, _)]) dX2_hikes_24 2 rfl (w := 1) rfl (Nat.le_of_ble_eq_true rfl) [1, 2, 0] rfl ?_
      refine r_goto dX2_hikes_27 (tgt := 4) (by decide) ?_
      rw [nI_1, (hP.2 t (by omega)).1.2.2.2.2.1]
      exact ih (t + 1) (by omega)
theorem t_X2_hikes {S : mS} (ha : kd a = 2) (hW : WN N) (hP : SP S a N) : Call G d M_X2_hikes [rv G a] S (fun v u => v = some (sumN (fun T => T.1 3) N (cnt N)) ∧ u = S) := by
  refine call_of (lo := [(0, rv G a)]) (by decide +kernel) (Nat.le_of_ble_eq_true rfl) rfl ?_
  refine r_iconst dX2_hikes_0 (v := 0) rfl ?_
  refine r_istore_n (lo2 := [(0, _), (1, _)]) dX2_hikes_1 rfl (Nat.le_of_ble_eq_true rfl) [1, 0] rfl ?_
  refine r_iconst dX2_hikes_2 (v := 0) rfl ?_
  refine r_istore_n (lo2 := [(0, _), (1, _), (2, _)]) dX2_hikes_3 rfl (Nat.le_of_ble_eq_true rfl) [1, 2, 0] rfl ?_
  exact lp_X2_hikes ha hW hP ⟨rfl, rfl⟩ (cnt N) 0 (by omega)
theorem lp_X2_scoutsOnHikes {S : mS} (ha : kd a = 2) (hW : WN N) (hP : SP S a N) (hx : Q (some (sumN (fun T => szF (hm T 3) 16) N (cnt N))) S) : ∀ n t, n + t = cnt N → At G (d + 1) M_X2_scoutsOnHikes Q 4 [(0, rv G a), (1, .int (sumN (fun T => szF (hm T 3) 16) N t)), (2, .int (nI t))] [] S := by
  obtain ⟨k1, k2, l1, l2, f1, f2, f3, k3⟩ := kdS ha
  obtain ⟨hc, hc5⟩ := hW.cn
  intro n
  induction n with
  | zero =>
    intro t ht
    obtain rfl : t = cnt N := by omega
    refine r_iload_n dX2_scoutsOnHikes_4 2 rfl ?_
    refine r_aload_n dX2_scoutsOnHikes_5 0 rfl ?_
    refine r_getI (by first | assumption | rfl) f_X2_28 rfl rfl dX2_scoutsOnHikes_6 ?_
    refine r_icmp_ge dX2_scoutsOnHikes_9 (tgt := 33) (by decide) (fun h9 => ?_) (fun h9 => ?_)
    · --t
      refine r_iload_n dX2_scoutsOnHikes_33 1 rfl ?_
      refine r_iret rfl dX2_scoutsOnHikes_34 ?_
      exact hx
    · --f
      exact absurd (by rw [hP.1.2.2.1, hc]; exact Int32.le_refl _) h9
  | succ n ih =>
    intro t ht
    have ht5 : t < 5 := by omega
    have hl : t < ln (a + 2) := by rw [l2]; exact ht5
    have hta := k3 t ht5
    refine r_iload_n dX2_scoutsOnHikes_4 2 rfl ?_
    refine r_aload_n dX2_scoutsOnHikes_5 0 rfl ?_
    refine r_getI (by first | assumption | rfl) f_X2_28 rfl rfl dX2_scoutsOnHikes_6 ?_
    refine r_icmp_ge dX2_scoutsOnHikes_9 (tgt := 33) (by decide) (fun h9 => ?_) (fun h9 => ?_)
    · --t
      exact absurd (by rw [hP.1.2.2.1, hc] at h9; exact h9) (nI_ge (show t < cnt N by omega) (by omega))
    · --f
      refine r_iload_n dX2_scoutsOnHikes_12 1 rfl ?_
      refine r_aload_n dX2_scoutsOnHikes_13 0 rfl ?_
      refine r_getR (by first | assumption | rfl) f_X2_17 rfl rfl dX2_scoutsOnHikes_14 (by first | assumption | rfl) ?_
      refine r_iload_n dX2_scoutsOnHikes_17 2 rfl ?_
      refine r_aald10 (j := _) (by first | assumption | rfl) (by first | assumption | rfl) (by first | assumption | decide) (f3 t) dX2_scoutsOnHikes_18 ?_
      refine r_getI (by first | assumption | rfl) f_X2_45 rfl rfl dX2_scoutsOnHikes_19 ?_
      refine r_callSiF (As := [_]) c_J6_bitCount_0f7a4 l_X2_48 rfl rfl rfl (Nat.le_of_ble_eq_true rfl) dX2_scoutsOnHikes_22 t_J6_bitCount_0f7a4 ?_
      refine r_iadd dX2_scoutsOnHikes_25 ?_
      refine r_istore_n (lo2 := [(0, _), (1, _), (2, _)]) dX2_scoutsOnHikes_26 rfl (Nat.le_of_ble_eq_true rfl) [1, 0, 2] rfl ?_
      refine r_iinc (lo2 := [(0, _), (1, _), (2, _)]) dX2_scoutsOnHikes_27 2 rfl (w := 1) rfl (Nat.le_of_ble_eq_true rfl) [1, 2, 0] rfl ?_
      refine r_goto dX2_scoutsOnHikes_30 (tgt := 4) (by decide) ?_
      rw [nI_1, (hP.2 t (by omega)).2.1.2.2.1, bc_ok (m := hm (N.2 t) 3) (mkm_hi _)]
      exact ih (t + 1) (by omega)
theorem t_X2_scoutsOnHikes {S : mS} (ha : kd a = 2) (hW : WN N) (hP : SP S a N) : Call G (d + 1) M_X2_scoutsOnHikes [rv G a] S (fun v u => v = some (sumN (fun T => szF (hm T 3) 16) N (cnt N)) ∧ u = S) := by
  refine call_of (lo := [(0, rv G a)]) (by decide +kernel) (Nat.le_of_ble_eq_true rfl) rfl ?_
  refine r_iconst dX2_scoutsOnHikes_0 (v := 0) rfl ?_
  refine r_istore_n (lo2 := [(0, _), (1, _)]) dX2_scoutsOnHikes_1 rfl (Nat.le_of_ble_eq_true rfl) [1, 0] rfl ?_
  refine r_iconst dX2_scoutsOnHikes_2 (v := 0) rfl ?_
  refine r_istore_n (lo2 := [(0, _), (1, _), (2, _)]) dX2_scoutsOnHikes_3 rfl (Nat.le_of_ble_eq_true rfl) [1, 2, 0] rfl ?_
  exact lp_X2_scoutsOnHikes ha hW hP ⟨rfl, rfl⟩ (cnt N) 0 (by omega)
theorem lp_X2_scoutsLost {S : mS} (ha : kd a = 2) (hW : WN N) (hP : SP S a N) (hx : Q (some (sumN (fun T => szF (hm T 4) 16) N (cnt N))) S) : ∀ n t, n + t = cnt N → At G (d + 1) M_X2_scoutsLost Q 4 [(0, rv G a), (1, .int (sumN (fun T => szF (hm T 4) 16) N t)), (2, .int (nI t))] [] S := by
  obtain ⟨k1, k2, l1, l2, f1, f2, f3, k3⟩ := kdS ha
  obtain ⟨hc, hc5⟩ := hW.cn
  intro n
  induction n with
  | zero =>
    intro t ht
    obtain rfl : t = cnt N := by omega
    refine r_iload_n dX2_scoutsLost_4 2 rfl ?_
    refine r_aload_n dX2_scoutsLost_5 0 rfl ?_
    refine r_getI (by first | assumption | rfl) f_X2_28 rfl rfl dX2_scoutsLost_6 ?_
    refine r_icmp_ge dX2_scoutsLost_9 (tgt := 33) (by decide) (fun h9 => ?_) (fun h9 => ?_)
    · --t
      refine r_iload_n dX2_scoutsLost_33 1 rfl ?_
      refine r_iret rfl dX2_scoutsLost_34 ?_
      exact hx
    · --f
      exact absurd (by rw [hP.1.2.2.1, hc]; exact Int32.le_refl _) h9
  | succ n ih =>
    intro t ht
    have ht5 : t < 5 := by omega
    have hl : t < ln (a + 2) := by rw [l2]; exact ht5
    have hta := k3 t ht5
    refine r_iload_n dX2_scoutsLost_4 2 rfl ?_
    refine r_aload_n dX2_scoutsLost_5 0 rfl ?_
    refine r_getI (by first | assumption | rfl) f_X2_28 rfl rfl dX2_scoutsLost_6 ?_
    refine r_icmp_ge dX2_scoutsLost_9 (tgt := 33) (by decide) (fun h9 => ?_) (fun h9 => ?_)
    · --t
      exact absurd (by rw [hP.1.2.2.1, hc] at h9; exact h9) (nI_ge (show t < cnt N by omega) (by omega))
    · --f
      refine r_iload_n dX2_scoutsLost_12 1 rfl ?_
      refine r_aload_n dX2_scoutsLost_13 0 rfl ?_
      refine r_getR (by first | assumption | rfl) f_X2_17 rfl rfl dX2_scoutsLost_14 (by first | assumption | rfl) ?_
      refine r_iload_n dX2_scoutsLost_17 2 rfl ?_
      refine r_aald10 (j := _) (by first | assumption | rfl) (by first | assumption | rfl) (by first | assumption | decide) (f3 t) dX2_scoutsLost_18 ?_
      refine r_getI (by first | assumption | rfl) f_X2_54 rfl rfl dX2_scoutsLost_19 ?_
      refine r_callSiF (As := [_]) c_J6_bitCount_0f7a4 l_X2_48 rfl rfl rfl (Nat.le_of_ble_eq_true rfl) dX2_scoutsLost_22 t_J6_bitCount_0f7a4 ?_
      refine r_iadd dX2_scoutsLost_25 ?_
      refine r_istore_n (lo2 := [(0, _), (1, _), (2, _)]) dX2_scoutsLost_26 rfl (Nat.le_of_ble_eq_true rfl) [1, 0, 2] rfl ?_
      refine r_iinc (lo2 := [(0, _), (1, _), (2, _)]) dX2_scoutsLost_27 2 rfl (w := 1) rfl (Nat.le_of_ble_eq_true rfl) [1, 2, 0] rfl ?_
      refine r_goto dX2_scoutsLost_30 (tgt := 4) (by decide) ?_
      rw [nI_1, (hP.2 t (by omega)).2.1.2.2.2, bc_ok (m := hm (N.2 t) 4) (mkm_hi _)]
      exact ih (t + 1) (by omega)
theorem t_X2_scoutsLost {S : mS} (ha : kd a = 2) (hW : WN N) (hP : SP S a N) : Call G (d + 1) M_X2_scoutsLost [rv G a] S (fun v u => v = some (sumN (fun T => szF (hm T 4) 16) N (cnt N)) ∧ u = S) := by
  refine call_of (lo := [(0, rv G a)]) (by decide +kernel) (Nat.le_of_ble_eq_true rfl) rfl ?_
  refine r_iconst dX2_scoutsLost_0 (v := 0) rfl ?_
  refine r_istore_n (lo2 := [(0, _), (1, _)]) dX2_scoutsLost_1 rfl (Nat.le_of_ble_eq_true rfl) [1, 0] rfl ?_
  refine r_iconst dX2_scoutsLost_2 (v := 0) rfl ?_
  refine r_istore_n (lo2 := [(0, _), (1, _), (2, _)]) dX2_scoutsLost_3 rfl (Nat.le_of_ble_eq_true rfl) [1, 2, 0] rfl ?_
  exact lp_X2_scoutsLost ha hW hP ⟨rfl, rfl⟩ (cnt N) 0 (by omega)
end STATE
