/-! the constructors: history, pad, the class, the reference -/
def hsS (S : mS) (c : Nat) : Nat → mS
  | 0 => S
  | i + 1 => stS (hsS S c i) (c + 18 * i)
theorem hsS_n {S : mS} {c x : Nat} : ∀ i, (x < c ∨ c + 18 * i ≤ x) → hsS S c i x = S x := by
  intro i
  induction i with
  | zero => intro _; rfl
  | succ i ih => intro h; show stS (hsS S c i) (c + 18 * i) x = S x; rw [stS_n (by omega)]; exact ih (by omega)
theorem st_hs : ∀ i, i < 7 → stOK (21 + 18 * i) = true := by decide +kernel
theorem st_sl : ∀ i, i < 2 → stOK (148 + 18 * i) = true := by decide +kernel
section CONS
variable {G : mG} {d : Nat} {S : mS} {pr : mP}
theorem lp_X0 (hG : adG G) {pr0 : mP} {S : mS} (z : ∀ x, 21 ≤ x → ∀ k, S x k = 0) : ∀ r i pr, r + i = 7 → Fr pr (21 + 18 * i) → Dn pr 21 (21 + 18 * i) → (∀ x, x < 19 → pr x = pr0 x) → pr 19 0 = true → (∀ k, k < i → pr 20 k = true) →
    Bt G (d + 3) 127 1631 M_X0_init (fun u q => u = hsS S 21 7 ∧ (∀ x, x < 19 → q x = pr0 x) ∧ Dn q 19 147 ∧ Fr q 147) 147 15 [(0, rv G 19), (1, .int (nI i))] [] (hsS S 21 i) pr (21 + 18 * i) (1 + 18 * i) (7 + 232 * i) := by
  intro r
  induction r with
  | zero =>
    intro i pr hi hF hD hp h0 h2
    obtain rfl : i = 7 := by omega
    have hDn : Dn pr 19 147 := by
      refine Dn.app (b := 20) (fun x a1 a2 k hr => ?_) (Dn.app (b := 21) (fun x a1 a2 k hr => ?_) hD)
      · obtain rfl : x = 19 := by omega
        have h3 : k = 0 := by
          rcases Nat.eq_zero_or_pos k with e | e
          · exact e
          · exfalso
            have h4 : rel 19 k = (Nat.ble (k + 1) 3 && !(Nat.ble 1 k)) := rfl
            rw [h4, Nat.ble_eq_true_of_le e] at hr
            rw [Bool.and_eq_true] at hr
            exact absurd hr.2 (by decide)
        subst h3; exact h0
      · obtain rfl : x = 20 := by omega
        exact h2 k (Nat.le_of_ble_eq_true hr)
    refine b_iload_n dX0_init_15 1 rfl ?_
    refine b_bipush dX0_init_16 (v := 7) (by decide +kernel) ?_
    refine b_icmp_ge dX0_init_18 (tgt := 40) (by decide) (fun h18 => ?_) (fun h18 => ?_)
    · --t
      refine b_vret rfl dX0_init_40 ?_
      exact ⟨rfl, hp, hDn, hF⟩
    · --f
      exact absurd (show (7 : Int32) ≤ nI 7 by decide) h18
  | succ r ih =>
    intro i pr hi hF hD hp h0 h2
    have hi7 : i < 7 := by omega
    have hb := st_hs i hi7
    have hk3 := (stOK.ok hb).1
    have zi : ∀ x, 21 + 18 * i ≤ x → ∀ k, hsS S 21 i x k = 0 := fun x hx k => by rw [hsS_n i (by omega)]; exact z x (by omega) k
    have hl : i < ln 20 := hi7
    refine b_iload_n dX0_init_15 1 rfl ?_
    refine b_bipush dX0_init_16 (v := 7) (by decide +kernel) ?_
    refine b_icmp_ge dX0_init_18 (tgt := 40) (by decide) (fun h18 => ?_) (fun h18 => ?_)
    · --t
      exact absurd h18 (nI_ge (b := 7) hi7 (by decide))
    · --f
      refine b_aload_n dX0_init_21 0 rfl ?_
      refine b_getR (b := 20) rfl f_X0_13 rfl rfl dX0_init_22 (by omega) h0 rfl ?_
      refine b_iload_n dX0_init_25 1 rfl ?_
      refine b_new hG n_X0_11 hk3 (zi _ (by omega)) (hF _ (by omega)) (by omega) (by show 7 + 232 * i + 5 ≤ 1631; omega) dX0_init_26 ?_
      refine b_dup dX0_init_29 rfl ?_
      refine b_callI co_X2_init l_X0_17 (Nat.le_of_ble_eq_true rfl) (by omega) (by show 7 + 232 * i + 5 + 227 ≤ 1631; omega) dX0_init_30 (i_X2 hG hb zi hF) (fun S30 p30 q30 => ?_)
      obtain ⟨rfl, q1, q2, q3⟩ := q30
      refine b_aast (b := 21 + 18 * i) (t := 9) (ci := 2) (j := i) rfl (by decide) rfl hk3 (by decide) (show 20 + 1 + 18 * i = 21 + 18 * i by omega) (by omega) rfl hl (by omega) dX0_init_33 ?_
      refine b_iinc (lo2 := [(0, _), (1, _)]) dX0_init_34 1 rfl (w := 1) rfl (Nat.le_of_ble_eq_true rfl) [1, 0] rfl ?_
      refine b_goto dX0_init_37 (tgt := 15) (by decide) ?_
      rw [nI_1]
      have p0 : ∀ x, x < 21 → p30 x = pr x := fun x hx => q1 x (by omega)
      refine b_eq (by omega) (by omega) (by show 7 + 232 * (i + 1) = 7 + 232 * i + 5 + 227; omega) (ih (i + 1) _ (by omega) (Fr.up (n := 21 + 18 * (i + 1)) (q3.mono (by omega)) (by omega)) (Dn.up (Dn.app (b := 21 + 18 * i) (hD.frame (fun x a1 a2 => q1 x a2)) q2)) (fun x hx => ?_) (upP_k (by rw [p0 19 (by omega)]; exact h0)) (fun k hk => ?_))
      · rw [upP_n (by omega), p0 x (by omega)]; exact hp x hx
      · by_cases e : k = i
        · subst e; exact upP_s
        · exact upP_k (by rw [p0 20 (by omega)]; exact h2 k (by omega))
theorem i_X0 (hG : adG G) (z : ∀ x, 19 ≤ x → ∀ k, S x k = 0) (hF : Fr pr 19) : CallI G (d + 3) 127 1631 M_X0_init 19 S pr 20 (fun u q => u = hsS S 21 7 ∧ (∀ x, x < 19 → q x = pr x) ∧ Dn q 19 147 ∧ Fr q 147) 147 := by
  refine calli_of (lo := [(0, rv G 19)]) (by decide +kernel) rfl (Nat.le_of_ble_eq_true rfl) rfl ?_
  refine b_aload_n dX0_init_0 0 rfl ?_
  refine b_objInit o_X0 o_inst o_code (by omega) (by decide) dX0_init_1 ?_
  refine b_aload_n dX0_init_4 0 rfl ?_
  refine b_bipush dX0_init_5 (v := 7) (by decide +kernel) ?_
  refine b_newq hG (Cn := "ScoutGates$State") (n := 20) (t := 9) (N := 7) rfl (by decide) rfl rfl rfl (by decide) (fun k => hF 20 (by omega) k) (n_X0_11.1.2) (fun _ h => h.1) (by omega) (by omega) dX0_init_7 ?_
  refine b_putR (b := 20) rfl f_X0_13 rfl rfl rfl rfl rfl rfl rfl rfl (by omega) dX0_init_10 ?_
  refine b_iconst dX0_init_13 (v := 0) rfl ?_
  refine b_istore_n (lo2 := [(0, _), (1, _)]) dX0_init_14 rfl (Nat.le_of_ble_eq_true rfl) [1, 0] rfl ?_
  refine b_eq (n := 21 + 18 * 0) (kc := 1 + 18 * 0) (ks := 7 + 232 * 0) (by omega) (by omega) (by show 7 + 232 * 0 = 0 + 7; omega) ?_
  exact lp_X0 (S := S) (pr0 := pr) hG (fun x hx => z x (by omega)) 7 0 (upP pr 19 0) (by omega) (Fr.up (n := 21 + 18 * 0) (hF.mono (by omega)) (by omega)) (fun x a1 a2 => absurd a2 (by omega)) (fun x hx => upP_n (by omega)) upP_s (fun k hk => absurd hk (by omega))
theorem i_X1 (hG : adG G) (z : ∀ x, 185 ≤ x → ∀ k, S x k = 0) : CallI G (d + 1) 1 80 M_X1_init 185 S pr 186 (fun u q => u = S ∧ q = upP pr 185 0) 187 := by
  refine calli_of (lo := [(0, rv G 185)]) (by decide +kernel) rfl (Nat.le_of_ble_eq_true rfl) rfl ?_
  refine b_aload_n dX1_init_0 0 rfl ?_
  refine b_objInit o_X1 o_inst o_code (by omega) (by decide) dX1_init_1 ?_
  refine b_aload_n dX1_init_4 0 rfl ?_
  refine b_bipush dX1_init_5 (v := 80) (by decide +kernel) ?_
  refine b_newa (atype := .char) hG (n := 186) (t := 7) (N := 80) rfl (by decide) rfl rfl rfl (by decide) (z 186 (by omega)) a_char (by omega) (by omega) dX1_init_7 ?_
  refine b_putR (b := 186) rfl f_X1_9 rfl rfl rfl rfl rfl rfl rfl rfl (by omega) dX1_init_9 ?_
  refine b_vret rfl dX1_init_12 ?_
  exact ⟨rfl, rfl⟩
end CONS
