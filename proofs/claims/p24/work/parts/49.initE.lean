/-! the constructors: the class, the reference -/
section CONS
variable {G : mG} {d : Nat} {S : mS} {pr : mP} {nc ns n1 : Nat} {R : mS → mP → Prop}
theorem lp_X4 (hG : adG G) {S : mS} (z : ∀ x, 148 ≤ x → ∀ k, S x k = 0) (hnc : nc = 189) (hns : ns = 2465)
    (hx : ∀ pr, Fr pr 184 → Dn pr 1 147 → Dn pr 148 184 → (∀ k, k < 3 → pr 0 k = true) → (∀ k, k < 2 → pr 147 k = true) → Bt G (d + 4) nc ns M_X4_init R n1 60 [(0, rv G 0), (1, .int 2)] [] (hsS S 148 2) pr 184 183 2332) :
    ∀ r i pr, r + i = 2 → Fr pr (148 + 18 * i) → Dn pr 1 147 → Dn pr 148 (148 + 18 * i) → (∀ k, k < 3 → pr 0 k = true) → (∀ k, k < i → pr 147 k = true) →
    Bt G (d + 4) nc ns M_X4_init R n1 36 [(0, rv G 0), (1, .int (nI i))] [] (hsS S 148 i) pr (148 + 18 * i) (147 + 18 * i) (1868 + 232 * i) := by
  subst hnc
  subst hns
  intro r
  induction r with
  | zero =>
    intro i pr hi hF hD1 hD hp h2
    obtain rfl : i = 2 := by omega
    refine b_iload_n dX4_init_36 1 rfl ?_
    refine b_iconst dX4_init_37 (v := 2) rfl ?_
    refine b_icmp_ge dX4_init_38 (tgt := 60) (by decide) (fun h38 => ?_) (fun h38 => ?_)
    · --t
      exact hx pr hF hD1 hD hp h2
    · --f
      exact absurd (show (2 : Int32) ≤ nI 2 by decide) h38
  | succ r ih =>
    intro i pr hi hF hD1 hD hp h2
    have hi2 : i < 2 := by omega
    have hb := st_sl i hi2
    have hk3 := (stOK.ok hb).1
    have zi : ∀ x, 148 + 18 * i ≤ x → ∀ k, hsS S 148 i x k = 0 := fun x hx k => by rw [hsS_n i (by omega)]; exact z x (by omega) k
    have hl : i < ln 147 := hi2
    refine b_iload_n dX4_init_36 1 rfl ?_
    refine b_iconst dX4_init_37 (v := 2) rfl ?_
    refine b_icmp_ge dX4_init_38 (tgt := 60) (by decide) (fun h38 => ?_) (fun h38 => ?_)
    · --t
      exact absurd h38 (nI_ge (b := 2) hi2 (by decide))
    · --f
      refine b_aload_n dX4_init_41 0 rfl ?_
      refine b_getR (b := 147) rfl f_X4_23 rfl rfl dX4_init_42 (by omega) (hp 2 (by omega)) rfl ?_
      refine b_iload_n dX4_init_45 1 rfl ?_
      refine b_new hG n_X4_7 hk3 (zi _ (by omega)) (hF _ (by omega)) (by omega) (by show 1868 + 232 * i + 5 ≤ 2465; omega) dX4_init_46 ?_
      refine b_dup dX4_init_49 rfl ?_
      refine b_callI co_X2_init l_X4_9 (Nat.le_of_ble_eq_true rfl) (by omega) (by show 1868 + 232 * i + 5 + 227 ≤ 2465; omega) dX4_init_50 (i_X2 hG hb zi hF) (fun S50 p50 q50 => ?_)
      obtain ⟨rfl, q1, q2, q3⟩ := q50
      refine b_aast (b := 148 + 18 * i) (t := 9) (ci := 2) (j := i) rfl (by decide) rfl hk3 (by decide) (show 147 + 1 + 18 * i = 148 + 18 * i by omega) (by omega) rfl hl (by omega) dX4_init_53 ?_
      refine b_iinc (lo2 := [(0, _), (1, _)]) dX4_init_54 1 rfl (w := 1) rfl (Nat.le_of_ble_eq_true rfl) [1, 0] rfl ?_
      refine b_goto dX4_init_57 (tgt := 36) (by decide) ?_
      rw [nI_1]
      have p0 : ∀ x, x < 148 → p50 x = pr x := fun x hx => q1 x (by omega)
      refine b_eq (by omega) (by omega) (by show 1868 + 232 * (i + 1) = 1868 + 232 * i + 5 + 227; omega) (ih (i + 1) _ (by omega) (Fr.up (n := 148 + 18 * (i + 1)) (q3.mono (by omega)) (by omega)) ((hD1.frame (fun x a1 a2 => p0 x (by omega))).up) (Dn.up (Dn.app (b := 148 + 18 * i) (hD.frame (fun x a1 a2 => q1 x a2)) q2)) (fun k hk => upP_k (by rw [p0 0 (by omega)]; exact hp k hk)) (fun k hk => ?_))
      by_cases e : k = i
      · subst e; exact upP_s
      · exact upP_k (by rw [p0 147 (by omega)]; exact h2 k (by omega))
def sX4 (S : mS) : mS := hsS (hsS (stS S 1) 21 7) 148 2
theorem sX4_n {S : mS} {x : Nat} (h : 184 ≤ x) : sX4 S x = S x := by
  unfold sX4
  rw [hsS_n 2 (by omega), hsS_n 7 (by omega), stS_n (by omega)]
theorem tl_X4 (hG : adG G) {S : mS} (z : ∀ x, 184 ≤ x → ∀ k, S x k = 0) (hF : Fr pr 184) (hD1 : Dn pr 1 147) (hD : Dn pr 148 184) (hp : ∀ k, k < 3 → pr 0 k = true) (h2 : ∀ k, k < 2 → pr 147 k = true) : Bt G (d + 4) 189 2465 M_X4_init (fun u q => u = S ∧ Dn q 0 190 ∧ Fr q 190) 190 60 [(0, rv G 0), (1, .int 2)] [] S pr 184 183 2332 := by
  have ht : tpOK 187 = true := by decide +kernel
  refine b_aload_n dX4_init_60 0 rfl ?_
  refine b_iconst dX4_init_61 (v := 2) rfl ?_
  refine b_newa (atype := .boolean) hG (n := 184) (t := 8) (N := 2) rfl (by decide) rfl rfl rfl (by decide) (z 184 (by omega)) a_boolean (by omega) (by omega) dX4_init_62 ?_
  refine b_putR (b := 184) rfl f_X4_27 rfl rfl rfl rfl rfl rfl rfl rfl (by omega) dX4_init_64 ?_
  refine b_aload_n dX4_init_67 0 rfl ?_
  refine b_new hG n_X4_31 (n := 185) (ci := 1) rfl (z 185 (by omega)) ((hF.up (by omega)) 185 (by omega)) (by omega) (by show 2332 + 2 + 7 ≤ 2465; omega) dX4_init_68 ?_
  refine b_dup dX4_init_71 rfl ?_
  refine b_callI co_X1_init l_X4_33 (Nat.le_of_ble_eq_true rfl) (by omega) (by show 2332 + 2 + 7 + 80 ≤ 2465; omega) dX4_init_72 (i_X1 hG (fun x hx => z x (by omega))) (fun S72 p72 q72 => ?_)
  obtain ⟨rfl, rfl⟩ := q72
  refine b_putR (b := 185) rfl f_X4_34 rfl rfl rfl rfl rfl rfl rfl rfl (by omega) dX4_init_75 ?_
  refine b_aload_n dX4_init_78 0 rfl ?_
  refine b_new hG n_X4_38 (n := 187) (ci := 3) rfl (z 187 (by omega)) (fun k => by rw [upP_n (by omega), upP_n (by omega), upP_n (by omega)]; exact hF 187 (by omega) k) (by omega) (by show 2332 + 2 + 7 + 80 + 12 ≤ 2465; omega) dX4_init_79 ?_
  refine b_dup dX4_init_82 rfl ?_
  refine b_callI co_X3_init l_X4_40 (Nat.le_of_ble_eq_true rfl) (by omega) (by show 2332 + 2 + 7 + 80 + 12 + 32 ≤ 2465; omega) dX4_init_83 (i_X3 (a := 187) hG ht (fun x hx => z x (by omega))) (fun S83 p83 q83 => ?_)
  obtain ⟨rfl, rfl⟩ := q83
  refine b_putR (b := 187) rfl f_X4_41 rfl rfl rfl rfl rfl rfl rfl rfl (by omega) dX4_init_86 ?_
  refine b_vret rfl dX4_init_89 ?_
  refine ⟨rfl, ?_, fun x hx k => ?_⟩
  · refine Dn.app (b := 1) (fun x c1 c2 k hr => ?_) (Dn.app (b := 147) hD1.up.up.up.up.up.up (Dn.app (b := 148) (fun x c1 c2 k hr => ?_) (Dn.app (b := 184) hD.up.up.up.up.up.up (Dn.app (b := 185) (Dn.num (t := 8) rfl (by omega)) (Dn.app (b := 186) (fun x c1 c2 k hr => ?_) (Dn.app (b := 187) (Dn.num (t := 7) rfl (by omega)) (Dn.up (Dn.tp ht))))))))
    · obtain rfl : x = 0 := by omega
      have h3 : rel 0 k = (Nat.ble (k + 1) 6 && !false) := rfl
      rw [h3, Bool.and_eq_true] at hr
      have h4 : k < 6 := Nat.le_of_ble_eq_true hr.1
      by_cases e : k < 3
      · exact upP_k (upP_k (upP_k (upP_k (upP_k (upP_k (hp k e))))))
      · rcases (by omega : k = 3 ∨ k = 4 ∨ k = 5) with rfl | rfl | rfl
        · exact upP_k (upP_k (upP_k (upP_k (upP_k upP_s))))
        · exact upP_k (upP_k (upP_k upP_s))
        · exact upP_s
    · obtain rfl : x = 147 := by omega
      have h3 : rel 147 k = Nat.ble (k + 1) 2 := rfl
      rw [h3] at hr
      exact upP_k (upP_k (upP_k (upP_k (upP_k (upP_k (h2 k (Nat.le_of_ble_eq_true hr)))))))
    · obtain rfl : x = 185 := by omega
      have h3 : rel 185 k = (Nat.ble (k + 1) 7 && !(Nat.ble 1 k)) := rfl
      have h4 : k = 0 := by
        rcases Nat.eq_zero_or_pos k with e | e
        · exact e
        · exfalso
          rw [h3, Nat.ble_eq_true_of_le e, Bool.and_eq_true] at hr
          exact absurd hr.2 (by decide)
      subst h4
      exact upP_k (upP_k (upP_k (upP_k upP_s)))
  · rw [upP_n (by omega), upP_n (by omega), upP_n (by omega), upP_n (by omega), upP_n (by omega), upP_n (by omega)]
    exact hF x (by omega) k
theorem i_X4 (hG : adG G) (z : ∀ x k, S x k = 0) (hF : Fr pr 0) : CallI G (d + 4) 189 2465 M_X4_init 0 S pr 1 (fun u q => u = sX4 S ∧ Dn q 0 190 ∧ Fr q 190) 190 := by
  refine calli_of (lo := [(0, rv G 0)]) (by decide +kernel) rfl (Nat.le_of_ble_eq_true rfl) rfl ?_
  have hb1 : stOK 1 = true := by decide +kernel
  have ht : tpOK 187 = true := by decide +kernel
  have z1 : ∀ x, 19 ≤ x → ∀ k, stS S 1 x k = 0 := fun x hx k => by rw [stS_n (by omega)]; exact z x k
  have z2 : ∀ x, 147 ≤ x → ∀ k, hsS (stS S 1) 21 7 x k = 0 := fun x hx k => by rw [hsS_n 7 (by omega)]; exact z1 x (by omega) k
  have z3 : ∀ x, 184 ≤ x → ∀ k, hsS (hsS (stS S 1) 21 7) 148 2 x k = 0 := fun x hx k => by rw [hsS_n 2 (by omega)]; exact z2 x (by omega) k
  refine b_aload_n dX4_init_0 0 rfl ?_
  refine b_objInit o_X4 o_inst o_code (by omega) (by decide) dX4_init_1 ?_
  refine b_aload_n dX4_init_4 0 rfl ?_
  refine b_new hG n_X4_7 (n := 1) (ci := 2) rfl (z 1) (hF 1 (by omega)) (by omega) (by show 0 + 5 ≤ 2465; omega) dX4_init_5 ?_
  refine b_dup dX4_init_8 rfl ?_
  refine b_callI co_X2_init l_X4_9 (Nat.le_of_ble_eq_true rfl) (by omega) (by show 0 + 5 + 227 ≤ 2465; omega) dX4_init_9 (i_X2 (b := 1) hG hb1 (fun x _ k => z x k) (hF.mono (by omega))) (fun S9 p9 q9 => ?_)
  obtain ⟨rfl, a1, a2, a3⟩ := q9
  refine b_putR (b := 1) rfl f_X4_10 rfl rfl rfl rfl rfl rfl rfl rfl (by omega) dX4_init_12 ?_
  refine b_aload_n dX4_init_15 0 rfl ?_
  refine b_new hG n_X4_16 (n := 19) (ci := 0) rfl (z1 19 (by omega)) ((a3.up (by omega)) 19 (by omega)) (by omega) (by show 0 + 5 + 227 + 3 ≤ 2465; omega) dX4_init_16 ?_
  refine b_dup dX4_init_19 rfl ?_
  refine b_callI co_X0_init l_X4_18 (Nat.le_of_ble_eq_true rfl) (by omega) (by show 0 + 5 + 227 + 3 + 1631 ≤ 2465; omega) dX4_init_20 (i_X0 hG z1 (a3.up (by omega))) (fun S20 p20 q20 => ?_)
  obtain ⟨rfl, b1, b2, b3⟩ := q20
  refine b_putR (b := 19) rfl f_X4_19 rfl rfl rfl rfl rfl rfl rfl rfl (by omega) dX4_init_23 ?_
  refine b_aload_n dX4_init_26 0 rfl ?_
  refine b_iconst dX4_init_27 (v := 2) rfl ?_
  refine b_newq hG (Cn := "ScoutGates$State") (n := 147) (t := 9) (N := 2) rfl (by decide) rfl rfl rfl (by decide) ((b3.up (by omega)) 147 (by omega)) (n_X4_7.1.2) (fun _ h => h.1) (by omega) (by show 0 + 5 + 227 + 3 + 1631 + 2 ≤ 2465; omega) dX4_init_28 ?_
  refine b_putR (b := 147) rfl f_X4_23 rfl rfl rfl rfl rfl rfl rfl rfl (by omega) dX4_init_31 ?_
  refine b_iconst dX4_init_34 (v := 0) rfl ?_
  refine b_istore_n (lo2 := [(0, _), (1, _)]) dX4_init_35 rfl (Nat.le_of_ble_eq_true rfl) [1, 0] rfl ?_
  refine b_eq (n := 148 + 18 * 0) (kc := 147 + 18 * 0) (ks := 1868 + 232 * 0) (by omega) (by omega) (by show 1868 + 232 * 0 = 0 + 5 + 227 + 3 + 1631 + 2; omega) ?_
  refine lp_X4 (S := hsS (stS S 1) 21 7) hG (fun x hx => z2 x (by omega)) rfl rfl (fun pr hF hD1 hD hp h2 => ?_) 2 0 (upP (upP p20 0 1) 0 2) (by omega) (Fr.up (n := 148 + 18 * 0) ((b3.mono (by omega)).up (by omega)) (by omega)) (Dn.up (Dn.up (Dn.app (b := 19) (a2.frame (fun x c1 c2 => (b1 x c2).trans (upP_n (by omega)))) b2))) (fun x c1 c2 => absurd c2 (by omega)) (fun k hk => ?_) (fun k hk => absurd hk (by omega))
  · exact tl_X4 hG z3 hF hD1 hD hp h2
  · rcases (by omega : k = 0 ∨ k = 1 ∨ k = 2) with rfl | rfl | rfl
    · exact upP_k (upP_k (by rw [b1 0 (by omega)]; exact upP_s))
    · exact upP_k upP_s
    · exact upP_s
end CONS
