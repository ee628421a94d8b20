/-! the constructors: troops and states -/
def Fr (pr : mP) (n : Nat) : Prop := ∀ x, n ≤ x → ∀ k, pr x k = false
/-- the references that a cell has -/
def rel (a k : Nat) : Bool := if kd a < 6 then Nat.ble (k + 1) (fN (kd a)) && !(isI (kd a) k) else if kd a < 9 then false else Nat.ble (k + 1) (ln a)
def Dn (q : mP) (lo hi : Nat) : Prop := ∀ x, lo ≤ x → x < hi → ∀ k, rel x k = true → q x k = true
theorem Fr.up {pr : mP} {n a k : Nat} (h : Fr pr n) (ha : a < n) : Fr (upP pr a k) n := fun x hx j => by rw [upP_n (by omega)]; exact h x hx j
theorem Fr.mono {pr : mP} {n m : Nat} (h : Fr pr n) (hm : n ≤ m) : Fr pr m := fun x hx => h x (by omega)
theorem upP_s {pr : mP} {a k : Nat} : upP pr a k a k = true := by simp [upP]
theorem upP_k {pr : mP} {a k b j : Nat} (h : pr b j = true) : upP pr a k b j = true := by unfold upP; rw [h]; simp
theorem Dn.up {q : mP} {lo hi a k : Nat} (h : Dn q lo hi) : Dn (upP q a k) lo hi := fun x h1 h2 j hj => upP_k (h x h1 h2 j hj)
theorem Dn.app {q : mP} {a b c : Nat} (h : Dn q a b) (g : Dn q b c) : Dn q a c := fun x h1 h2 k hk => by
  by_cases e : x < b
  · exact h x h1 e k hk
  · exact g x (by omega) h2 k hk
theorem Dn.num {q : mP} {a t : Nat} (hk : kd a = t) (h : 6 ≤ t ∧ t < 9) : Dn q a (a + 1) := fun x h1 h2 k hr => by
  obtain rfl : x = a := by omega
  unfold rel at hr
  rw [if_neg (by omega), if_pos (by omega)] at hr
  exact absurd hr (by decide)
theorem Dn.frame {q r : mP} {a b : Nat} (h : Dn q a b) (g : ∀ x, a ≤ x → x < b → r x = q x) : Dn r a b := fun x h1 h2 k hk => by rw [g x h1 h2]; exact h x h1 h2 k hk
def tpOK (a : Nat) : Bool := (kd a == 3) && (kd (a + 1) == 6) && (kd (a + 2) == 6) && (ln (a + 1) == 16) && (ln (a + 2) == 16)
theorem tpOK.ok {a : Nat} (h : tpOK a = true) : kd a = 3 ∧ kd (a + 1) = 6 ∧ kd (a + 2) = 6 ∧ ln (a + 1) = 16 ∧ ln (a + 2) = 16 := by
  unfold tpOK at h
  simp only [Bool.and_eq_true, beq_iff_eq] at h
  exact ⟨h.1.1.1.1, h.1.1.1.2, h.1.1.2, h.1.2, h.2⟩
section CONS
variable {G : mG} {d : Nat} {S : mS} {pr : mP}
theorem i_X3 (hG : adG G) {a : Nat} (ht : tpOK a = true) (z : ∀ x, a ≤ x → ∀ k, S x k = 0) : CallI G (d + 1) 2 32 M_X3_init a S pr (a + 1) (fun u q => u = S ∧ q = upP (upP pr a 10) a 11) (a + 3) := by
  obtain ⟨hk, k1, k2, l1, l2⟩ := tpOK.ok ht
  refine calli_of (lo := [(0, rv G a)]) (by decide +kernel) rfl (Nat.le_of_ble_eq_true rfl) rfl ?_
  have r1 : rf a 10 = a + 1 := by unfold rf; rw [hk]; show a + 10 - 9 = a + 1; omega
  have r2 : rf a 11 = a + 1 + 1 := by unfold rf; rw [hk]; show a + 11 - 9 = a + 1 + 1; omega
  refine b_aload_n dX3_init_0 0 rfl ?_
  refine b_objInit o_X3 o_inst o_code (by omega) (by decide) dX3_init_1 ?_
  refine b_aload_n dX3_init_4 0 rfl ?_
  refine b_bipush dX3_init_5 (v := 16) (by decide +kernel) ?_
  refine b_newa (atype := .int) hG k1 (by decide) rfl l1 rfl (by decide) (z (a + 1) (by omega)) a_int (by omega) (by omega) dX3_init_7 ?_
  refine b_putR (b := (a + 1)) hk f_X3_9 rfl rfl rfl rfl rfl rfl rfl r1 (by omega) dX3_init_9 ?_
  refine b_aload_n dX3_init_12 0 rfl ?_
  refine b_bipush dX3_init_13 (v := 16) (by decide +kernel) ?_
  refine b_newa (atype := .int) hG (n := a + 1 + 1) k2 (by decide) rfl l2 rfl (by decide) (z (a + 2) (by omega)) a_int (by omega) (by omega) dX3_init_15 ?_
  refine b_putR (b := (a + 1 + 1)) hk f_X3_15 rfl rfl rfl rfl rfl rfl rfl r2 (by omega) dX3_init_17 ?_
  refine b_vret rfl dX3_init_20 ?_
  exact ⟨rfl, rfl⟩
theorem Dn.tp {q : mP} {a : Nat} (ht : tpOK a = true) : Dn (upP (upP q a 10) a 11) a (a + 3) := by
  obtain ⟨hk, k1, k2, l1, l2⟩ := tpOK.ok ht
  refine Dn.app (b := a + 1) ?_ (Dn.app (b := a + 2) (Dn.num k1 (by omega)) (Dn.num k2 (by omega)))
  intro x h1 h2 k hr
  obtain rfl : x = a := by omega
  unfold rel at hr
  rw [hk, if_pos (by omega)] at hr
  rw [Bool.and_eq_true] at hr
  have h3 : k < 12 := Nat.le_of_ble_eq_true hr.1
  have h4 : ¬ k < 10 := by
    intro z
    have : isI 3 k = true := Nat.ble_eq_true_of_le z
    rw [this] at hr
    exact absurd hr.2 (by decide)
  rcases (by omega : k = 10 ∨ k = 11) with rfl | rfl
  · exact upP_k upP_s
  · exact upP_s
/-- a State's own block -/
def stOK (b : Nat) : Bool := (kd b == 2) && (kd (b + 1) == 6) && (kd (b + 2) == 10) && (ln (b + 1) == 2) && (ln (b + 2) == 5) && (List.range 5).all (fun i => tpOK (b + 3 + 3 * i))
theorem stOK.ok {b : Nat} (h : stOK b = true) : kd b = 2 ∧ kd (b + 1) = 6 ∧ kd (b + 2) = 10 ∧ ln (b + 1) = 2 ∧ ln (b + 2) = 5 ∧ ∀ i, i < 5 → tpOK (b + 3 + 3 * i) = true := by
  unfold stOK at h
  simp only [Bool.and_eq_true, beq_iff_eq] at h
  exact ⟨h.1.1.1.1.1, h.1.1.1.1.2, h.1.1.1.2, h.1.1.2, h.1.2, fun i hi => List.all_eq_true.mp h.2 i (List.mem_range.mpr hi)⟩
def stS (S : mS) (b : Nat) : mS := up1 (up1 S (b + 1) (upd (S (b + 1)) 0 20)) (b + 1) (upd (up1 S (b + 1) (upd (S (b + 1)) 0 20) (b + 1)) 1 30)
theorem stS_n {S : mS} {b x : Nat} (h : x ≠ b + 1) : stS S b x = S x := (up1_n h).trans (up1_n h)
theorem stS_0 {S : mS} {b : Nat} : stS S b (b + 1) 0 = 20 ∧ stS S b (b + 1) 1 = 30 := by
  unfold stS
  constructor
  · rw [up1_s, upd, if_neg (by omega), up1_s, upd, if_pos rfl]
  · rw [up1_s, upd, if_pos rfl]
theorem b_eq {G : mG} {d nc ns n1 : Nat} {M : mM} {R : mS → mP → Prop} {pc : Nat} {lo : List (Nat × Value)} {st : List Value} {S : mS} {pr : mP} {n n' kc kc' ks ks' : Nat} (h1 : n = n') (h2 : kc = kc') (h3 : ks = ks') (k : Bt G d nc ns M R n1 pc lo st S pr n kc ks) : Bt G d nc ns M R n1 pc lo st S pr n' kc' ks' := by subst h1; subst h2; subst h3; exact k
theorem lp_X2 (hG : adG G) {b : Nat} (hb : stOK b = true) {pr0 : mP} {S : mS} (z : ∀ x, b + 3 ≤ x → ∀ k, S x k = 0) : ∀ r i pr, r + i = 5 → Fr pr (b + 3 + 3 * i) → Dn pr (b + 3) (b + 3 + 3 * i) → (∀ x, x < b → pr x = pr0 x) → pr b 0 = true → pr b 1 = true → (∀ k, k < i → pr (b + 2) k = true) →
    Bt G (d + 2) 17 227 M_X2_init (fun u q => u = S ∧ (∀ x, x < b → q x = pr0 x) ∧ Dn q b (b + 18) ∧ Fr q (b + 18)) (b + 18) 37 [(0, rv G b), (1, .int (nI i))] [] S pr (b + 3 + 3 * i) (2 + 3 * i) (7 + 44 * i) := by
  obtain ⟨k0, k1, k2, l1, l2, ht⟩ := stOK.ok hb
  intro r
  induction r with
  | zero =>
    intro i pr hi hF hD hp h0 h1 h2
    obtain rfl : i = 5 := by omega
    have hDn : Dn pr b (b + 18) := by
      refine Dn.app (b := b + 1) (fun x a1 a2 k hr => ?_) (Dn.app (b := b + 2) (Dn.num k1 (by omega)) (Dn.app (b := b + 3) (fun x a1 a2 k hr => ?_) hD))
      · obtain rfl : x = b := by omega
        unfold rel at hr
        rw [k0, if_pos (by omega), Bool.and_eq_true] at hr
        have h3 : k < 5 := Nat.le_of_ble_eq_true hr.1
        have h4 : ¬ 2 ≤ k := by
          intro z
          have : isI 2 k = true := Nat.ble_eq_true_of_le z
          rw [this] at hr
          exact absurd hr.2 (by decide)
        rcases (by omega : k = 0 ∨ k = 1) with rfl | rfl
        · exact h0
        · exact h1
      · obtain rfl : x = b + 2 := by omega
        unfold rel at hr
        rw [k2, if_neg (by omega), if_neg (by omega), l2] at hr
        exact h2 k (Nat.le_of_ble_eq_true hr)
    refine b_iload_n dX2_init_37 1 rfl ?_
    refine b_iconst dX2_init_38 (v := 5) rfl ?_
    refine b_icmp_ge dX2_init_39 (tgt := 61) (by decide) (fun h39 => ?_) (fun h39 => ?_)
    · --t
      refine b_vret rfl dX2_init_61 ?_
      exact ⟨rfl, hp, hDn, hF⟩
    · --f
      exact absurd (show (5 : Int32) ≤ nI 5 by decide) h39
  | succ r ih =>
    intro i pr hi hF hD hp h0 h1 h2
    have hi5 : i < 5 := by omega
    have hti := ht i hi5
    have hk3 := (tpOK.ok hti).1
    have e1 : rf b 1 = b + 2 := by unfold rf; rw [k0]; rfl
    have e2 : rf (b + 2) i = b + 3 + 3 * i := by unfold rf; rw [k2]; show b + 2 + 1 + 3 * i = _; omega
    refine b_iload_n dX2_init_37 1 rfl ?_
    refine b_iconst dX2_init_38 (v := 5) rfl ?_
    refine b_icmp_ge dX2_init_39 (tgt := 61) (by decide) (fun h39 => ?_) (fun h39 => ?_)
    · --t
      exact absurd h39 (nI_ge (b := 5) hi5 (by decide))
    · --f
      refine b_aload_n dX2_init_42 0 rfl ?_
      refine b_getR (b := (b + 2)) k0 f_X2_17 rfl rfl dX2_init_43 (by omega) h1 e1 ?_
      refine b_iload_n dX2_init_46 1 rfl ?_
      refine b_new hG n_X2_15 hk3 (z _ (by omega)) (hF _ (by omega)) (by omega) (by show 7 + 44 * i + 12 ≤ 227; omega) dX2_init_47 ?_
      refine b_dup dX2_init_50 rfl ?_
      refine b_callI co_X3_init l_X2_21 (Nat.le_of_ble_eq_true rfl) (by omega) (by show 7 + 44 * i + 12 + 32 ≤ 227; omega) dX2_init_51 (i_X3 hG hti (fun x hx => z x (by omega))) (fun S51 p51 q51 => ?_)
      obtain ⟨rfl, rfl⟩ := q51
      refine b_aast (b := b + 3 + 3 * i) (t := 10) (ci := 3) (j := i) k2 (by decide) rfl hk3 (by decide) e2 (by omega) rfl (by rw [l2]; exact hi5) (by omega) dX2_init_54 ?_
      refine b_iinc (lo2 := [(0, _), (1, _)]) dX2_init_55 1 rfl (w := 1) rfl (Nat.le_of_ble_eq_true rfl) [1, 0] rfl ?_
      refine b_goto dX2_init_58 (tgt := 37) (by decide) ?_
      rw [nI_1]
      have hF2 : Fr (upP (upP pr (b + 3 + 3 * i) 10) (b + 3 + 3 * i) 11) (b + 3 + 3 * i + 3) := ((hF.mono (by omega)).up (by omega)).up (by omega)
      refine b_eq (by omega) (by omega) (by show 7 + 44 * (i + 1) = 7 + 44 * i + 12 + 32; omega) (ih (i + 1) _ (by omega) ((Fr.up (n := b + 3 + 3 * (i + 1)) (hF2.mono (by omega)) (by omega))) ?_ (fun x hx => ?_) (upP_k (upP_k (upP_k h0))) (upP_k (upP_k (upP_k h1))) (fun k hk => ?_))
      · refine Dn.up (Dn.app (b := b + 3 + 3 * i) (hD.up.up) ?_)
        have := Dn.tp (q := pr) hti
        exact this
      · rw [upP_n (by omega), upP_n (by omega), upP_n (by omega)]; exact hp x hx
      · by_cases e : k = i
        · subst e; exact upP_s
        · exact upP_k (upP_k (upP_k (h2 k (by omega))))
theorem i_X2 (hG : adG G) {b : Nat} (hb : stOK b = true) (z : ∀ x, b ≤ x → ∀ k, S x k = 0) (hF : Fr pr b) : CallI G (d + 2) 17 227 M_X2_init b S pr (b + 1) (fun u q => u = stS S b ∧ (∀ x, x < b → q x = pr x) ∧ Dn q b (b + 18) ∧ Fr q (b + 18)) (b + 18) := by
  obtain ⟨k0, k1, k2, l1, l2, ht⟩ := stOK.ok hb
  refine calli_of (lo := [(0, rv G b)]) (by decide +kernel) rfl (Nat.le_of_ble_eq_true rfl) rfl ?_
  have e0 : rf b 0 = b + 1 := by unfold rf; rw [k0]; rfl
  have e1 : rf b 1 = b + 1 + 1 := by unfold rf; rw [k0]; rfl
  have l1a : 0 < ln (b + 1) := by omega
  have l1b : 1 < ln (b + 1) := by omega
  refine b_aload_n dX2_init_0 0 rfl ?_
  refine b_objInit o_X2 o_inst o_code (by omega) (by decide) dX2_init_1 ?_
  refine b_aload_n dX2_init_4 0 rfl ?_
  refine b_iconst dX2_init_5 (v := 2) rfl ?_
  refine b_newa (atype := .int) hG k1 (by decide) rfl l1 rfl (by decide) (z (b + 1) (by omega)) a_int (by omega) (by omega) dX2_init_6 ?_
  refine b_putR (b := (b + 1)) k0 f_X2_9 rfl rfl rfl rfl rfl rfl rfl e0 (by omega) dX2_init_8 ?_
  refine b_aload_n dX2_init_11 0 rfl ?_
  refine b_getR (b := (b + 1)) k0 f_X2_9 rfl rfl dX2_init_12 (by omega) upP_s e0 ?_
  refine b_iconst dX2_init_15 (v := 0) rfl ?_
  refine b_bipush dX2_init_16 (v := 20) (by decide +kernel) ?_
  refine b_iast (j := 0) k1 rfl l1a (by omega) dX2_init_18 ?_
  refine b_aload_n dX2_init_19 0 rfl ?_
  refine b_getR (b := (b + 1)) k0 f_X2_9 rfl rfl dX2_init_20 (by omega) upP_s e0 ?_
  refine b_iconst dX2_init_23 (v := 1) rfl ?_
  refine b_bipush dX2_init_24 (v := 30) (by decide +kernel) ?_
  refine b_iast (j := 1) k1 rfl l1b (by omega) dX2_init_26 ?_
  refine b_aload_n dX2_init_27 0 rfl ?_
  refine b_iconst dX2_init_28 (v := 5) rfl ?_
  refine b_newq hG (Cn := "ScoutGates$Troop") (n := b + 1 + 1) k2 (by decide) rfl l2 rfl (by decide) (fun k => by rw [upP_n (by omega)]; exact hF (b + 1 + 1) (by omega) k) (n_X2_15.1.2) (fun _ h => h.2) (by omega) (by omega) dX2_init_29 ?_
  refine b_putR (b := (b + 1 + 1)) k0 f_X2_17 rfl rfl rfl rfl rfl rfl rfl e1 (by omega) dX2_init_32 ?_
  refine b_iconst dX2_init_35 (v := 0) rfl ?_
  refine b_istore_n (lo2 := [(0, _), (1, _)]) dX2_init_36 rfl (Nat.le_of_ble_eq_true rfl) [1, 0] rfl ?_
  refine b_eq (n := b + 3 + 3 * 0) (kc := 2 + 3 * 0) (ks := 7 + 44 * 0) (by omega) (by omega) (by show 7 + 44 * 0 = 0 + 2 + 5; omega) ?_
  exact lp_X2 (S := stS S b) (pr0 := pr) hG hb (fun x hx k => by rw [stS_n (by omega)]; exact z x (by omega) k) 5 0 (upP (upP pr b 0) b 1) (by omega) ((Fr.up (n := b + 3 + 3 * 0) ((hF.mono (by omega)).up (by omega)) (by omega))) (fun x a1 a2 => absurd a2 (by omega)) (fun x hx => by rw [upP_n (by omega), upP_n (by omega)]) (upP_k upP_s) upP_s (fun k hk => absurd hk (by omega))
end CONS
