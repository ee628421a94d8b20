/-! the law from its entry -/
theorem arrV_cg {cA : ClassId} {n : Nat} {f g : Nat → Value} (h : ∀ k, k < n → f k = g k) : arrV cA n f = arrV cA n g := by
  unfold arrV
  congr 2
  funext j
  exact h j.val j.isLt
theorem rel_o {a k ci : Nat} (h : kd a = ci) (hc : ci < 6) (hk : k < fN ci) (hi : isI ci k = false) : rel a k = true := by
  subst h
  unfold rel
  rw [if_pos hc, hi, Nat.ble_eq_true_of_le hk]
  rfl
theorem rel_r {a k t : Nat} (h : kd a = t) (hc : 9 ≤ t) (hk : k < ln a) : rel a k = true := by
  subst h
  unfold rel
  rw [if_neg (by omega), if_neg (by omega)]
  exact Nat.ble_eq_true_of_le hk
theorem mB_P {G : mG} {S : mS} {q : mP} {H : Heap} (h : va_P G.2.1 mcl (mB G S q 190) H) (hD : Dn q 0 190) : va_P G.2.1 mcl (mW G S) H := by
  intro k x hx
  have hk : k < 190 := by
    have := (List.getElem?_eq_some_iff.mp hx).1
    simpa [mW] using this
  rw [mW_at G S hk] at hx
  cases hx
  have h1 := h k _ (mB_at hk)
  by_cases h6 : kd k < 6
  · have e : cFs G S q k (kd k) = mFs G S k (kd k) := by
      refine List.ext_getElem? fun j => ?_
      by_cases hj : j < fN (kd k)
      · rw [cFs_at hj, mFs_at hj]
        cases hi : isI (kd k) j
        · rw [hD k (by omega) hk j (rel_o rfl h6 hj hi)]; rfl
        · rfl
      · rw [List.getElem?_eq_none (by rw [cFs_len]; omega), List.getElem?_eq_none (by rw [mFs_len]; omega)]
    rw [cellQ_o rfl h6, e] at h1
    rw [cellE_o rfl h6]
    exact h1
  · by_cases h9 : kd k < 9
    · rw [cellQ_i rfl h6 h9] at h1
      rw [cellE_i rfl h6 h9]
      exact h1
    · rw [cellQ_r rfl h9] at h1
      rw [cellE_r rfl h9]
      replace h1 : H[G.2.2.2 k]? = some (arrV (G.2.2.1 (kd k)) (ln k) (fun j => va_rf (if q k j then some (G.2.2.2 (rf k j)) else none))) := h1
      show H[G.2.2.2 k]? = some (arrV (G.2.2.1 (kd k)) (ln k) (fun j => va_rf (some (G.2.2.2 (rf k j)))))
      rw [h1]
      congr 1
      exact arrV_cg (fun j hj => by rw [hD k (by omega) hk j (rel_r rfl (by omega) hj)]; rfl)
theorem mB_D {G : mG} {S : mS} {q : mP} {A : Nat → Prop} (h : va_D A (mB G S q 190)) : va_D A (mW G S) := by
  have key : ∀ (k : Nat) (x : Nat × va_E), (mW G S)[k]? = some x → (mB G S q 190)[k]? = some (G.2.2.2 k, cellQ G S q k) ∧ x.1 = G.2.2.2 k := by
    intro k x hx
    have hk : k < 190 := by
      have := (List.getElem?_eq_some_iff.mp hx).1
      simpa [mW] using this
    rw [mW_at G S hk] at hx
    cases hx
    exact ⟨mB_at hk, rfl⟩
  refine ⟨fun i j p r hi hj e => ?_, fun k x hx => ?_⟩
  · obtain ⟨a1, a2⟩ := key i p hi
    obtain ⟨b1, b2⟩ := key j r hj
    exact h.1 i j _ _ a1 b1 (by rw [← a2, ← b2]; exact e)
  · obtain ⟨a1, a2⟩ := key k x hx
    rw [a2]; exact h.2 k _ a1
theorem ty_num {ty : FieldType} {args : Array Value} {s : State} (h : (Cond.arrayClass ty).before args s = true) (hne : ty = .int ∨ ty = .char ∨ ty = .boolean) : ∃ cA, ArrOfT s cA ty ∧ va_RA s cA ty := by
  obtain ⟨c, k, comp, h1, h2, h3⟩ := Cond.arrayClass_spec h
  refine ⟨c, fun n z => ⟨(fun k h => by cases h), k, h2, comp, h3⟩, ?_⟩
  rcases hne with rfl | rfl | rfl <;> exact h1
theorem ty_obj {C : String} {args : Array Value} {s : State} (h : (Cond.arrayOver (.object C)).before args s = true) : ∃ cA, ArrOfT s cA (.object C) ∧ va_RA s cA (.object C) := by
  obtain ⟨comp, c, k, h1, h2, h3, h4, h5⟩ := Cond.arrayOver_spec h
  exact ⟨c, fun n z => ⟨(fun k h => by cases h), k, h3, comp, h4⟩, k, comp, h3, h4, h1, h5⟩
def LB (p : Program) (e : Env) (s : State) (m : MethodId) (below : List Frame) (meth : Method) (c : Code) (G : mG) (b : Nat) (pc : Nat) (lo : List (Nat × Value)) (st : List Value) (S : mS) (pr : mP) (n kc ks : Nat) : Prop :=
  ∀ (H : Heap) (ls : Array Slot), lv_has ls 3 lo → H.size = G.2.2.2 n → va_P G.2.1 mcl (mB G S pr n) H → va_D (fun q => s.heap.size ≤ q) (mB G S pr n) → va_S (fun q => s.heap.size ≤ q) s.heap H [] →
    W p G.1 e room_1 s m #[Value.ref b] below meth c H [] kc ks (lw_Z below #[Value.ref b] s) (F0 m pc ls st)
section START
variable {p : Program} {e : Env} {s : State} {m : MethodId} {below : List Frame} {meth : Method} {c : Code} {G : mG} {b L : Nat} {xs : Nat → Int32} {pc : Nat} {lo : List (Nat × Value)} {st : List Value} {S : mS} {pr : mP} {n kc ks : Nat}
theorem lb_new {i ci : Nat} (C0 : lw_At p s m meth c b L xs) (hK : va_K G.2.1 mcl (mTy G) s) (hG : adG G) (hcl : clR RL i ci) (hk : kd n = ci) (h0 : ∀ k, S n k = 0) (h1 : ∀ k, pr n k = false) (hc : kc + 1 ≤ 600000) (hs : ks + fN ci ≤ 7302249) (hd : decode cL_law pc = .ok (.new i, 3)) (k : LB p e s m below meth c G b (pc + 3) lo (rv G n :: st) S pr (n + 1) (kc + 1) (ks + fN ci)) : LB p e s m below meth c G b pc lo st S pr n kc ks := by
  intro H ls hl hz hP hD hS
  have hci := hcl.1.1
  have hKn := hK.1 ci _ (cls_at ci hci)
  have hts := C0.2.2.2.2.2.1
  refine W.newcK (own := R_law) (h := G.2.2.2 n) C0.1 C0.2.1 C0.2.2.2.2.1 (hts _ (gm hcl.1.2)) (hts _ (gm hcl.2.1)) (hts _ (gm hcl.2.2)) rfl hd hc hs hKn.2.1 hz fun H1 kC hkC e1 z1 o1 => ?_
  have hP1 : va_P G.2.1 mcl (mB G S pr n ++ [(G.2.2.2 n, .inr (ci, cFs G S pr n ci))]) H1 := hP.grow hz o1 ⟨_, cls_at ci hci, (u_born (fY ci) hts (fun w hw => gm (cls_in ci hci w hw)) hKn hkC e1 (cls_ty ci hci)).to (cFs_new hci h0 h1)⟩
  have hD1 : va_D (fun q => s.heap.size ≤ q) (mB G S pr n ++ [(G.2.2.2 n, .inr (ci, cFs G S pr n ci))]) := hD.push hP hz.symm (by rw [← hz]; exact hS.1)
  rw [← cellQ_o hk hci, mB_push] at hP1 hD1
  exact k _ _ hl (z1.trans (hG n).symm) hP1 hD1 (hS.grow hz z1 o1)
theorem lb_dup {v : Value} (C0 : lw_At p s m meth c b L xs) (hd : decode cL_law pc = .ok (.dup, 1)) (hc : v.category = 1) (k : LB p e s m below meth c G b (pc + 1) lo (v :: v :: st) S pr n kc ks) : LB p e s m below meth c G b pc lo (v :: st) S pr n kc ks := by
  intro H ls hl hz hP hD hS
  exact lv_dup C0.1 C0.2.1 hd hc (k _ _ hl hz hP hD hS)
theorem lb_astore_n {i : Fin 4} {j : Nat} {x : Nat} {lo2 : List (Nat × Value)} (C0 : lw_At p s m meth c b L xs) (hd : decode cL_law pc = .ok (.astore_n i, 1)) (hi : (i : Nat) = j) (hn : j < 3) (ps : List Nat) (hs : lv_pick ((j, rv G x) :: lo.filter (fun q => !(q.1 == j) && !(q.1 + 1 == j && q.2.category == 2))) ps = lo2) (k : LB p e s m below meth c G b (pc + 1) lo2 st S pr n kc ks) : LB p e s m below meth c G b pc lo (rv G x :: st) S pr n kc ks := by
  intro H ls hl hz hP hD hS
  exact lv_astore_n C0.1 C0.2.1 hd hi hl hn rfl (fun ls' hl => k _ _ (lv_sub hl ps hs) hz hP hD hS)
theorem lb_istore_n {i : Fin 4} {j : Nat} {x : Int32} {lo2 : List (Nat × Value)} (C0 : lw_At p s m meth c b L xs) (hd : decode cL_law pc = .ok (.istore_n i, 1)) (hi : (i : Nat) = j) (hn : j < 3) (ps : List Nat) (hs : lv_pick ((j, .int x) :: lo.filter (fun q => !(q.1 == j) && !(q.1 + 1 == j && q.2.category == 2))) ps = lo2) (k : LB p e s m below meth c G b (pc + 1) lo2 st S pr n kc ks) : LB p e s m below meth c G b pc lo (.int x :: st) S pr n kc ks := by
  intro H ls hl hz hP hD hS
  exact lv_istore_n C0.1 C0.2.1 hd hi hl hn rfl (fun ls' hl => k _ _ (lv_sub hl ps hs) hz hP hD hS)
theorem lb_iconst {i : Int} {v : Int32} (C0 : lw_At p s m meth c b L xs) (hd : decode cL_law pc = .ok (.iconst i, 1)) (hv : Int32.ofInt i = v) (k : LB p e s m below meth c G b (pc + 1) lo (.int v :: st) S pr n kc ks) : LB p e s m below meth c G b pc lo st S pr n kc ks := by
  intro H ls hl hz hP hD hS
  exact lv_iconst C0.1 C0.2.1 hd hv (k _ _ hl hz hP hD hS)
theorem lb_callI {M' : mM} {i a nc2 ns2 n2 : Nat} {R2 : mS → mP → Prop} (C0 : lw_At p s m meth c b L xs) (hK : va_K G.2.1 mcl (mTy G) s) (hO : vAO s) (hc : CO M') (hl1 : ML RL i M') (hr : (st.map fun v => v.category).sum ≤ 8) (hkc : kc + nc2 ≤ 600000) (hks : ks + ns2 ≤ 7302249) (hd : decode cL_law pc = .ok (.invokespecial i, 3)) (hcall : CallI G 9 nc2 ns2 M' a S pr n R2 n2) (k : ∀ S2 p2, R2 S2 p2 → LB p e s m below meth c G b (pc + 3) lo st S2 p2 n2 (kc + nc2) (ks + ns2)) (hR : nc2 ≤ 600000 ∧ ns2 ≤ 7302249) : LB p e s m below meth c G b pc lo (rv G a :: st) S pr n kc ks := by
  intro H ls hl hz hP hD hS
  have hts := C0.2.2.2.2.2.1
  have hF : ∀ q, va_A (mB G S pr n) (G.2.2.2 n) q → s.heap.size ≤ q := by
    intro q h
    rcases h with ⟨k, e, h⟩ | h
    · exact hD.2 k (q, e) h
    · exact Nat.le_trans hS.1 (by rw [hz]; exact h)
  have e0 := hc.2.1.2
  have hM := hcall
  unfold CallI mWs at hM
  rw [e0] at hM
  have hg : GoodIn lw_tbl (Cond.code M'.1 M'.2.1 M'.2.2.1 none :: gtbl) := by
    have z := gi_ws (big := lw_tbl) (fun w hw => gm hw) hc.1
    unfold mWs at z
    rw [e0] at z
    exact z
  refine va_callv (A1 := va_A (mB G S pr n) (G.2.2.2 n)) (va_runI (R := room_1) (As := []) (rest := st) (own := R_law) (Ts := lw_tbl) ⟨C0.1, C0.2.1, C0.2.2.2.1, C0.2.2.2.2.1, hts⟩ hM (cwI 0 hts hg rfl rfl rfl (hts _ (gm hc.1.1.2.1)) (hts _ (gm hl1)) (hts _ (gm hc.2.2)) hc.2.1.1 hc.1.2 ⟨Nat.le_of_ble_eq_true rfl, by have := hc.1.1.2.2; show 8 + (M'.2.2.1 + 11) + 270 ≤ 402; omega⟩) ⟨fun a U g mk q => by obtain ⟨q0, q1, qP, qK, qO, qD⟩ := q; exact ⟨q0, q1, qP, va_K.moved (u := U) (U := U.calling g mk a) (Vm.Alike.refl U.vm) qK, vAO.moved (u := U) (U := U.calling g mk a) (Vm.Alike.refl U.vm) qO, qD⟩, fun U hU hW => ⟨rfl, by rw [hU]; exact hz, by rw [hU]; exact hP, va_K.moved hW.alike hK, hO.moved hW.alike, hD.weaken (fun _ _ _ _ => trivial)⟩⟩ rfl rfl hl.1 rfl (lv_room hr) hd ⟨hkc, hks⟩) hS (fun q _ h => hF q h) hF (fun u t H1 locs1 ht hvm hw hB hz1 hk1 hS1 => ?_)
  obtain ⟨hs1, hP1, hK1, hD1⟩ := hB
  rw [ht] at hP1 hs1
  refine va_forget (fun q hq => hS1.2.2 q hq) ?_
  exact k u.1 u.2 hw _ _ hl hs1 hP1 (hD1.weaken (fun _ _ _ h => hF _ h)) ⟨hS1.1, hS1.2.1, fun _ h => absurd h List.not_mem_nil⟩
end START
def N00 : mN := (fun j => if j = 0 then 20 else if j = 1 then 30 else 0, fun _ => newT 1)
def Sf : mS := sX4 (fun _ _ => 0)
theorem cnt00 : cnt N00 = 0 := by decide +kernel
theorem nj0 : NJ N00 0 := by
  have hc := cnt00
  exact ⟨⟨⟨0, by decide +kernel, by omega⟩, fun t ht => absurd ht (by omega)⟩, fun t ht => absurd ht (by omega), ⟨0, by omega, by decide +kernel⟩, by decide +kernel⟩
theorem li0 : LI Sf N00 := by
  have hc := cnt00
  exact ⟨⟨⟨by decide +kernel, by decide +kernel, by decide +kernel, by decide +kernel, by decide +kernel⟩, fun t ht => absurd ht (by omega)⟩, ⟨0, fun _ => N00, 0, ⟨by omega, by decide +kernel⟩, ⟨by omega, by decide +kernel⟩, fun i hi => absurd hi (by omega)⟩, by decide +kernel⟩
theorem set_0 {N : mN} {b v : Nat} (h : NJ N b) (hv : v ≤ 99) : setO N 0 (nI v) = (N.1 0, (upd N.1 0 (nI v), N.2)) ∧ NJ (upd N.1 0 (nI v), N.2) b := by
  have hc : ((0 : Int32) = 0 ∧ 0 ≤ nI v ∧ nI v ≤ 99) ∨ ((0 : Int32) = 1 ∧ 1 ≤ nI v ∧ nI v ≤ 99) := Or.inl ⟨rfl, nI_pos' (by omega), nI_le (b := 99) hv (by decide)⟩
  refine ⟨by unfold setO; rw [if_pos hc]; rfl, h.1.glob rfl, ?_, h.2.2.1, h.2.2.2⟩
  exact h.2.1
theorem set_1 {N : mN} {b v : Nat} (h : NJ N b) (h1 : 1 ≤ v) (hv : v ≤ 99) : setO N 1 (nI v) = (N.1 1, (upd N.1 1 (nI v), N.2)) ∧ NJ (upd N.1 1 (nI v), N.2) b := by
  have hc : ((1 : Int32) = 0 ∧ 0 ≤ nI v ∧ nI v ≤ 99) ∨ ((1 : Int32) = 1 ∧ 1 ≤ nI v ∧ nI v ≤ 99) := Or.inr ⟨rfl, nI_le (a := 1) h1 (by omega), nI_le (b := 99) hv (by decide)⟩
  refine ⟨by unfold setO; rw [if_pos hc]; rfl, h.1.glob rfl, ?_, h.2.2.1, nI_le (a := 1) h1 (by omega)⟩
  exact h.2.1
theorem e_tr {N : mN} : addO N 17 = (-2, N) := by unfold addO; rw [show isSz 17 = false by decide +kernel]; rfl
theorem e_com {N : mN} (hW : WN N) : comO N 9 0 0 = (-1, N) := by
  refine com_n ?_
  have h : isTr N 9 = false := by
    unfold isTr
    rw [decide_eq_false_iff_not, hW.cn.1]
    exact fun z => absurd z.2 (nI_nlt (b := cnt N) (a := 9) (by have := hW.cn.2; omega) (by decide))
  unfold whyA isSc
  rw [h, Bool.false_and, if_neg (by decide)]
theorem e_com2 {N : mN} (hW : WN N) (hc : 2 ≤ cnt N) : comO N 0 0 2 = (-2, N) := by
  have h : whyA N 0 0 2 = -2 := by
    obtain ⟨s, e1, e2, e3, e4⟩ := (hW.2 0 (by omega)).sz
    have z := sc_ok hW (t := 0) (k := 0) (by omega) (by omega)
    rw [decide_eq_true (by omega)] at z
    unfold whyA
    rw [show isSc N 0 0 = true from z, if_pos rfl, if_pos (Or.inr (by decide))]
  unfold comO
  rw [h, if_pos (by decide)]
theorem e_pas {N : mN} : pasO N 100 = (-2, N) := by unfold pasO; rw [if_pos (Or.inr (by decide))]
theorem e_oft {N : mN} (hW : WN N) (hc : 2 ≤ cnt N) : ofTA N 0 12 = -2 := by
  unfold ofTA
  rw [if_pos (show isTr N 0 = true from tr_ok hW (t := 0) (by omega))]
  rfl
theorem e_of {N : mN} (hW : WN N) (hc : 2 ≤ cnt N) : ofA N 0 16 0 = -1 := by
  obtain ⟨s, e1, e2, e3, e4⟩ := (hW.2 0 (by omega)).sz
  have h : knwT (N.2 0) 16 = false := by
    unfold knwT
    have h1 : decide (0 ≤ (16 : Int32) ∧ (16 : Int32) < (N.2 0).1 0) = false := by
      rw [decide_eq_false_iff_not, e2]
      exact fun z => absurd z.2 (nI_nlt (b := s) (a := 16) e4 (by decide))
    rw [h1]
    rfl
  unfold ofA
  rw [if_pos (show isTr N 0 = true from tr_ok hW (t := 0) (by omega))]
  show (if knwT (N.2 0) 16 = true then _ else (-1 : Int32)) = -1
  rw [h]
  rfl
section LOOP
variable {p : Program} {e : Env} {s : State} {m : MethodId} {below : List Frame} {meth : Method} {c : Code} {G : mG} {b L : Nat} {xs : Nat → Int32}
theorem lp_law (C0 : lw_At p s m meth c b L xs) (hK : va_K G.2.1 mcl (mTy G) s) (hL : L ≤ 260) : ∀ r k (S : mS) (N : mN) kc ks, r + k = 60 → NI N (3 * k) → LI S N → kc = 190 + 7 * k → ks = 2471 + 153 * k → LW p e s m below meth c G b 83 [(0, .ref b), (1, rv G 0), (2, .int (nI k))] [] (S, [], kc, ks) := by
  intro r
  induction r with
  | zero =>
    intro k S N kc ks hk hN hS h1 h2
    obtain rfl : k = 60 := by omega
    have hW := hN.1
    have hc := hN.2.2.2.2
    have k1 := k_troop (G := G) hW hS (x := 17)
    rw [e_tr] at k1
    refine l_iload_n C0 dL_law_83 2 rfl ?_
    refine l_bipush C0 dL_law_84 (v := 60) (by decide +kernel) ?_
    refine l_icmp_ge C0 dL_law_86 (tgt := 118) (by decide) (fun h86 => ?_) (fun h86 => by first | exact absurd (show (60 : Int32) ≤ nI 60 by decide) h86 | exact absurd h86 (show (60 : Int32) ≤ nI 60 by decide))
    refine l_aload_n C0 dL_law_118 1 rfl ?_
    refine l_bipush C0 dL_law_119 (v := 17) (by decide +kernel) ?_
    refine l_callV C0 hK (d := 7) (As := [_]) c_X4_troop rfl l_L_60 rfl rfl rfl (Nat.le_of_ble_eq_true rfl) ⟨Nat.le_of_ble_eq_true rfl, Nat.le_of_ble_eq_true rfl⟩ dL_law_121 k1 (fun r121 u121 q121 => ?_)
    obtain ⟨z, hS1⟩ := q121
    cases z
    have k2 := k_come (G := G) hW hS1 (x := 9) (y := 0) (c := 0)
    rw [e_com hW] at k2
    refine l_bipush C0 dL_law_124 (v := -2) (by decide +kernel) ?_
    refine l_icmp_ne C0 dL_law_126 (tgt := 203) (by decide) (fun h126 => by first | exact absurd (rfl) h126 | exact absurd h126 (rfl)) (fun h126 => ?_)
    refine l_aload_n C0 dL_law_129 1 rfl ?_
    refine l_bipush C0 dL_law_130 (v := 9) (by decide +kernel) ?_
    refine l_iconst C0 dL_law_132 (v := 0) rfl ?_
    refine l_iconst C0 dL_law_133 (v := 0) rfl ?_
    refine l_callV C0 hK (d := 7) (As := [_, _, _]) c_X4_come rfl l_L_34 rfl rfl rfl (Nat.le_of_ble_eq_true rfl) ⟨Nat.le_of_ble_eq_true rfl, Nat.le_of_ble_eq_true rfl⟩ dL_law_134 k2 (fun r134 u134 q134 => ?_)
    obtain ⟨z, hS2⟩ := q134
    cases z
    have k3 := k_come (G := G) hW hS2 (x := 0) (y := 0) (c := 2)
    rw [e_com2 hW hc] at k3
    refine l_iconst C0 dL_law_137 (v := -1) rfl ?_
    refine l_icmp_ne C0 dL_law_138 (tgt := 203) (by decide) (fun h138 => by first | exact absurd (rfl) h138 | exact absurd h138 (rfl)) (fun h138 => ?_)
    refine l_aload_n C0 dL_law_141 1 rfl ?_
    refine l_iconst C0 dL_law_142 (v := 0) rfl ?_
    refine l_iconst C0 dL_law_143 (v := 0) rfl ?_
    refine l_iconst C0 dL_law_144 (v := 2) rfl ?_
    refine l_callV C0 hK (d := 7) (As := [_, _, _]) c_X4_come rfl l_L_34 rfl rfl rfl (Nat.le_of_ble_eq_true rfl) ⟨Nat.le_of_ble_eq_true rfl, Nat.le_of_ble_eq_true rfl⟩ dL_law_145 k3 (fun r145 u145 q145 => ?_)
    obtain ⟨z, hS3⟩ := q145
    cases z
    have k4 := k_pass (G := G) hW hS3 (x := 100)
    rw [e_pas] at k4
    refine l_bipush C0 dL_law_148 (v := -2) (by decide +kernel) ?_
    refine l_icmp_ne C0 dL_law_150 (tgt := 203) (by decide) (fun h150 => by first | exact absurd (rfl) h150 | exact absurd h150 (rfl)) (fun h150 => ?_)
    refine l_aload_n C0 dL_law_153 1 rfl ?_
    refine l_bipush C0 dL_law_154 (v := 100) (by decide +kernel) ?_
    refine l_callV C0 hK (d := 7) (As := [_]) c_X4_pass rfl l_L_37 rfl rfl rfl (Nat.le_of_ble_eq_true rfl) ⟨Nat.le_of_ble_eq_true rfl, Nat.le_of_ble_eq_true rfl⟩ dL_law_156 k4 (fun r156 u156 q156 => ?_)
    obtain ⟨z, hS4⟩ := q156
    cases z
    have k5 : Call G 7 M_X4_ofTroop [rv G 0, .int 0, .int 12] u156 (fun v u => v = some (-2) ∧ u = u156) := q_t (t := 0) hW hS4 (e_oft hW hc)
    have k6 := t_X4_of (G := G) (d := 4) (t := 0) (k := 16) (w := 0) hW hS4.1
    rw [e_of hW hc] at k6
    have k7 : Call G 7 M_X4_count [rv G 0, .int 10] u156 (fun v u => v = some (-2) ∧ u = u156) := q_cnt hW hS4 (fun n => rfl)
    refine l_bipush C0 dL_law_159 (v := -2) (by decide +kernel) ?_
    refine l_icmp_ne C0 dL_law_161 (tgt := 203) (by decide) (fun h161 => by first | exact absurd (rfl) h161 | exact absurd h161 (rfl)) (fun h161 => ?_)
    refine l_aload_n C0 dL_law_164 1 rfl ?_
    refine l_iconst C0 dL_law_165 (v := 0) rfl ?_
    refine l_bipush C0 dL_law_166 (v := 12) (by decide +kernel) ?_
    refine l_callVF C0 hK (d := 7) (As := [_, _]) c_X4_ofTroop rfl l_L_19 rfl rfl rfl (Nat.le_of_ble_eq_true rfl) ⟨Nat.le_of_ble_eq_true rfl, Nat.le_of_ble_eq_true rfl⟩ dL_law_168 k5 ?_
    refine l_bipush C0 dL_law_171 (v := -2) (by decide +kernel) ?_
    refine l_icmp_ne C0 dL_law_173 (tgt := 203) (by decide) (fun h173 => by first | exact absurd (rfl) h173 | exact absurd h173 (rfl)) (fun h173 => ?_)
    refine l_aload_n C0 dL_law_176 1 rfl ?_
    refine l_iconst C0 dL_law_177 (v := 0) rfl ?_
    refine l_bipush C0 dL_law_178 (v := 16) (by decide +kernel) ?_
    refine l_iconst C0 dL_law_180 (v := 0) rfl ?_
    refine l_callVF C0 hK (d := 7) (As := [_, _, _]) c_X4_of rfl l_L_15 rfl rfl rfl (Nat.le_of_ble_eq_true rfl) ⟨Nat.le_of_ble_eq_true rfl, Nat.le_of_ble_eq_true rfl⟩ dL_law_181 k6 ?_
    refine l_iconst C0 dL_law_184 (v := -1) rfl ?_
    refine l_icmp_ne C0 dL_law_185 (tgt := 203) (by decide) (fun h185 => by first | exact absurd (rfl) h185 | exact absurd h185 (rfl)) (fun h185 => ?_)
    refine l_aload_n C0 dL_law_188 1 rfl ?_
    refine l_bipush C0 dL_law_189 (v := 10) (by decide +kernel) ?_
    refine l_callVF C0 hK (d := 7) (As := [_]) c_X4_count rfl l_L_9 rfl rfl rfl (Nat.le_of_ble_eq_true rfl) ⟨Nat.le_of_ble_eq_true rfl, Nat.le_of_ble_eq_true rfl⟩ dL_law_191 k7 ?_
    refine l_bipush C0 dL_law_194 (v := -2) (by decide +kernel) ?_
    refine l_icmp_ne C0 dL_law_196 (tgt := 203) (by decide) (fun h196 => by first | exact absurd (rfl) h196 | exact absurd h196 (rfl)) (fun h196 => ?_)
    refine l_iconst C0 dL_law_199 (v := 1) rfl ?_
    refine l_goto C0 dL_law_200 (tgt := 204) (by decide) ?_
    exact l_ret C0 dL_law_204
    
  | succ r ih =>
    intro k S N kc ks hk hN hS h1 h2
    have hk60 : k < 60 := by omega
    have b86 : ¬ ((60 : Int32) ≤ nI k) := nI_ge (b := 60) hk60 (by decide)
    have e94 : (4 : Int32) + nI k = nI (4 + k) := nI_add 4 k
    refine l_iload_n C0 dL_law_83 2 rfl ?_
    refine l_bipush C0 dL_law_84 (v := 60) (by decide +kernel) ?_
    refine l_icmp_ge C0 dL_law_86 (tgt := 118) (by decide) (fun h86 => by first | exact absurd (b86) h86 | exact absurd h86 (b86)) (fun h86 => ?_)
    refine l_aload_n C0 dL_law_89 1 rfl ?_
    refine l_aloadr_n C0 dL_law_90 0 rfl ?_
    refine l_iconst C0 dL_law_91 (v := 4) rfl ?_
    refine l_iload_n C0 dL_law_92 2 rfl ?_
    refine l_iadd C0 dL_law_93 ?_
    rw [e94]
    refine l_cell C0 (i := 4 + k) hL (by omega) l_L_64 (Nat.le_of_ble_eq_true rfl) dL_law_94 ?_
    intro g94
    refine l_callL C0 hK (As := [_, _]) cl_L_act l_L_71 rfl rfl rfl (Nat.le_of_ble_eq_true rfl) ⟨Nat.le_of_ble_eq_true rfl, Nat.le_of_ble_eq_true rfl⟩ (show kc + 2 ≤ 600000 ∧ ks + 128 ≤ 7302249 by omega) dL_law_97 (t_L_act hN (by omega) hS) (fun r97 u97 q97 => ?_)
    obtain ⟨z, N1, hN1, hS1⟩ := q97
    cases z
    refine l_if_eq C0 dL_law_100 (tgt := 110) (by decide) (fun h100 => by first | exact absurd (by decide) h100 | exact absurd h100 (by decide)) (fun h100 => ?_)
    refine l_aload_n C0 dL_law_103 1 rfl ?_
    refine l_callL C0 hK (As := [_]) cl_L_told l_L_75 rfl rfl rfl (Nat.le_of_ble_eq_true rfl) ⟨Nat.le_of_ble_eq_true rfl, Nat.le_of_ble_eq_true rfl⟩ (show kc + 2 + 5 ≤ 600000 ∧ ks + 128 + 25 ≤ 7302249 by omega) dL_law_104 (t_L_told hN1 (by omega) hS1) (fun r104 u104 q104 => ?_)
    obtain ⟨z, rfl⟩ := q104
    cases z
    refine l_if_ne C0 dL_law_107 (tgt := 112) (by decide) (fun h107 => ?_) (fun h107 => by first | exact absurd (by decide) h107 | exact absurd h107 (by decide))
    refine l_iinc C0 (lo2 := [(0, _), (1, _), (2, _)]) dL_law_112 2 rfl (w := 1) rfl (Nat.le_of_ble_eq_true rfl) [1, 2, 0] rfl ?_
    refine l_goto C0 dL_law_115 (tgt := 83) (by decide) ?_
    rw [nI_1]
    exact ih (k + 1) _ N1 _ _ (by omega) (hN1.mono (by omega)) hS1 (by show kc + 2 + 5 = _; omega) (by show ks + 128 + 25 = _; omega)
theorem st_law (C0 : lw_At p s m meth c b L xs) (hK : va_K G.2.1 mcl (mTy G) s) (hL : L ≤ 260) : LW p e s m below meth c G b 8 [(0, .ref b), (1, rv G 0)] [] (Sf, [], 190, 2471) := by
  have cl := fun (u : mS) (x : Int32) (n : Nat) (h0 : 0 < n) (h1 : n < 1000) => t_L_low (G := G) (d := 7) (S := u) (x := x) h0 h1
  have one : ∀ z : Nat, (1 : Int32) + nI z = nI (z + 1) := fun z => by rw [Int32.add_comm, nI_1]
  refine l_aload_n C0 dL_law_8 1 rfl ?_
  refine l_iconst C0 dL_law_9 (v := 0) rfl ?_
  refine l_aloadr_n C0 dL_law_10 0 rfl ?_
  refine l_iconst C0 dL_law_11 (v := 0) rfl ?_
  refine l_cell C0 (i := 0) hL (by omega) l_L_64 (Nat.le_of_ble_eq_true rfl) dL_law_12 ?_
  intro g12
  refine l_bipush C0 dL_law_15 (v := 6) (by decide +kernel) ?_
  have y17 := lowN_lt (x := g12) (n := 6) (by decide)
  have c17 := cl Sf g12 6 (by decide) (by decide)
  generalize lowN g12 6 = v17 at y17 c17
  obtain ⟨a1, a2⟩ := set_0 nj0 (show v17 ≤ 99 by omega)
  have k20 := k_set (G := G) nj0.1 li0 (x := 0) (y := nI v17)
  rw [a1] at k20
  refine l_callSF C0 hK (d := 7) (As := [_, _]) c_L_low l_L_40 rfl rfl rfl (Nat.le_of_ble_eq_true rfl) ⟨Nat.le_of_ble_eq_true rfl, Nat.le_of_ble_eq_true rfl⟩ dL_law_17 c17 ?_
  refine l_callV C0 hK (d := 7) (As := [_, _]) c_X4_set rfl l_L_68 rfl rfl rfl (Nat.le_of_ble_eq_true rfl) ⟨Nat.le_of_ble_eq_true rfl, Nat.le_of_ble_eq_true rfl⟩ dL_law_20 k20 (fun r20 u20 q20 => ?_)
  obtain ⟨z, hS1⟩ := q20
  cases z
  have hc1 : cnt (upd N00.1 0 (nI v17), N00.2) = 0 := cnt00
  generalize (upd N00.1 0 (nI v17), N00.2) = N1 at a2 hS1 hc1
  clear a1 k20
  refine l_pop C0 dL_law_23 rfl ?_
  refine l_aload_n C0 dL_law_24 1 rfl ?_
  refine l_iconst C0 dL_law_25 (v := 1) rfl ?_
  refine l_iconst C0 dL_law_26 (v := 1) rfl ?_
  refine l_aloadr_n C0 dL_law_27 0 rfl ?_
  refine l_iconst C0 dL_law_28 (v := 1) rfl ?_
  refine l_cell C0 (i := 1) hL (by omega) l_L_64 (Nat.le_of_ble_eq_true rfl) dL_law_29 ?_
  intro g29
  refine l_bipush C0 dL_law_32 (v := 8) (by decide +kernel) ?_
  have y34 := lowN_lt (x := g29) (n := 8) (by decide)
  have c34 := cl u20 g29 8 (by decide) (by decide)
  generalize lowN g29 8 = v34 at y34 c34
  obtain ⟨b1, b2⟩ := set_1 a2 (show 1 ≤ v34 + 1 by omega) (show v34 + 1 ≤ 99 by omega)
  have k38 := k_set (G := G) a2.1 hS1 (x := 1) (y := nI (v34 + 1))
  rw [b1] at k38
  refine l_callSF C0 hK (d := 7) (As := [_, _]) c_L_low l_L_40 rfl rfl rfl (Nat.le_of_ble_eq_true rfl) ⟨Nat.le_of_ble_eq_true rfl, Nat.le_of_ble_eq_true rfl⟩ dL_law_34 c34 ?_
  refine l_iadd C0 dL_law_37 ?_
  rw [one]
  refine l_callV C0 hK (d := 7) (As := [_, _]) c_X4_set rfl l_L_68 rfl rfl rfl (Nat.le_of_ble_eq_true rfl) ⟨Nat.le_of_ble_eq_true rfl, Nat.le_of_ble_eq_true rfl⟩ dL_law_38 k38 (fun r38 u38 q38 => ?_)
  obtain ⟨z, hS2⟩ := q38
  cases z
  have hc2 : cnt (upd N1.1 1 (nI (v34 + 1)), N1.2) = 0 := hc1
  generalize (upd N1.1 1 (nI (v34 + 1)), N1.2) = N2 at b2 hS2 hc2
  clear b1 k38
  refine l_pop C0 dL_law_41 rfl ?_
  refine l_aload_n C0 dL_law_42 1 rfl ?_
  refine l_iconst C0 dL_law_43 (v := 1) rfl ?_
  refine l_aloadr_n C0 dL_law_44 0 rfl ?_
  refine l_iconst C0 dL_law_45 (v := 2) rfl ?_
  refine l_cell C0 (i := 2) hL (by omega) l_L_64 (Nat.le_of_ble_eq_true rfl) dL_law_46 ?_
  intro g46
  refine l_iconst C0 dL_law_49 (v := 4) rfl ?_
  have y50 := lowN_lt (x := g46) (n := 4) (by decide)
  have c50 := cl u38 g46 4 (by decide) (by decide)
  generalize lowN g46 4 = v50 at y50 c50
  have k54 := k_troop (G := G) b2.1 hS2 (x := nI (v50 + 1))
  rw [add_ok b2.1 (by omega) (by omega) (by omega)] at k54
  refine l_callSF C0 hK (d := 7) (As := [_, _]) c_L_low l_L_40 rfl rfl rfl (Nat.le_of_ble_eq_true rfl) ⟨Nat.le_of_ble_eq_true rfl, Nat.le_of_ble_eq_true rfl⟩ dL_law_50 c50 ?_
  refine l_iadd C0 dL_law_53 ?_
  rw [one]
  refine l_callV C0 hK (d := 7) (As := [_]) c_X4_troop rfl l_L_60 rfl rfl rfl (Nat.le_of_ble_eq_true rfl) ⟨Nat.le_of_ble_eq_true rfl, Nat.le_of_ble_eq_true rfl⟩ dL_law_54 k54 (fun r54 u54 q54 => ?_)
  obtain ⟨z, hS3⟩ := q54
  cases z
  have hc3 := cnt_add (s := nI (v50 + 1)) b2.1 (by omega : cnt N2 < 5)
  have d2 := nj_add (n := v50 + 1) b2 (by omega) (by omega) (by omega)
  generalize addN N2 (nI (v50 + 1)) = N3 at d2 hS3 hc3
  rw [hc2] at hc3 ⊢
  refine l_if_ne C0 dL_law_57 (tgt := 79) (by decide) (fun h57 => by first | exact absurd (rfl) h57 | exact absurd h57 (rfl)) (fun h57 => ?_)
  refine l_aload_n C0 dL_law_60 1 rfl ?_
  refine l_iconst C0 dL_law_61 (v := 1) rfl ?_
  refine l_aloadr_n C0 dL_law_62 0 rfl ?_
  refine l_iconst C0 dL_law_63 (v := 3) rfl ?_
  refine l_cell C0 (i := 3) hL (by omega) l_L_64 (Nat.le_of_ble_eq_true rfl) dL_law_64 ?_
  intro g64
  refine l_iconst C0 dL_law_67 (v := 3) rfl ?_
  have y68 := lowN_lt (x := g64) (n := 3) (by decide)
  have c68 := cl u54 g64 3 (by decide) (by decide)
  generalize lowN g64 3 = v68 at y68 c68
  have k72 := k_troop (G := G) d2.1 hS3 (x := nI (v68 + 1))
  rw [add_ok d2.1 (by omega) (by omega) (by omega)] at k72
  refine l_callSF C0 hK (d := 7) (As := [_, _]) c_L_low l_L_40 rfl rfl rfl (Nat.le_of_ble_eq_true rfl) ⟨Nat.le_of_ble_eq_true rfl, Nat.le_of_ble_eq_true rfl⟩ dL_law_68 c68 ?_
  refine l_iadd C0 dL_law_71 ?_
  rw [one]
  refine l_callV C0 hK (d := 7) (As := [_]) c_X4_troop rfl l_L_60 rfl rfl rfl (Nat.le_of_ble_eq_true rfl) ⟨Nat.le_of_ble_eq_true rfl, Nat.le_of_ble_eq_true rfl⟩ dL_law_72 k72 (fun r72 u72 q72 => ?_)
  obtain ⟨z, hS4⟩ := q72
  cases z
  have hc4 := cnt_add (s := nI (v68 + 1)) d2.1 (by omega : cnt N3 < 5)
  have f2 := nj_add (n := v68 + 1) d2 (by omega) (by omega) (by omega)
  generalize addN N3 (nI (v68 + 1)) = N4 at f2 hS4 hc4
  rw [hc3]
  refine l_iconst C0 dL_law_75 (v := 1) rfl ?_
  refine l_icmp_eq C0 dL_law_76 (tgt := 81) (by decide) (fun h76 => ?_) (fun h76 => by first | exact absurd (rfl) h76 | exact absurd h76 (rfl))
  refine l_iconst C0 dL_law_81 (v := 0) rfl ?_
  refine l_istore_n C0 (lo2 := [(0, _), (1, _), (2, _)]) dL_law_82 rfl (Nat.le_of_ble_eq_true rfl) [1, 2, 0] rfl ?_
  exact lp_law C0 hK hL 60 0 _ N4 190 2471 (by omega) (f2.ni (by omega)) hS4 rfl rfl
end LOOP
section START2
variable {p : Program} {e : Env} {s : State} {m : MethodId} {below : List Frame} {meth : Method} {c : Code} {G : mG} {b L : Nat} {xs : Nat → Int32}
theorem start_G (C0 : lw_At p s m meth c b L xs) (hK : va_K G.2.1 mcl (mTy G) s) (hO : vAO s) (hG : adG G) (hL : L ≤ 260) : LB p e s m below meth c G b 0 [(0, .ref b)] [] (fun _ _ => 0) (fun _ _ => false) 0 0 0 := by
  refine lb_new C0 hK hG n_L_10 rfl (fun _ => rfl) (fun _ => rfl) (Nat.le_of_ble_eq_true rfl) (Nat.le_of_ble_eq_true rfl) dL_law_0 ?_
  refine lb_dup C0 dL_law_3 rfl ?_
  refine lb_callI C0 hK hO co_X4_init l_L_63 (Nat.le_of_ble_eq_true rfl) (Nat.le_of_ble_eq_true rfl) (Nat.le_of_ble_eq_true rfl) dL_law_4 (i_X4 (d := 5) hG (fun _ _ => rfl) (fun _ _ _ => rfl)) (fun S2 p2 q2 => ?_) ⟨Nat.le_of_ble_eq_true rfl, Nat.le_of_ble_eq_true rfl⟩
  obtain ⟨rfl, a1, a2⟩ := q2
  refine lb_astore_n (lo2 := [(0, _), (1, _)]) C0 dL_law_7 rfl (Nat.le_of_ble_eq_true rfl) [1, 0] rfl ?_
  intro H ls hl hz hP hD hS
  exact st_law C0 hK hL H ls hl (mB_P hP a1) (mB_D hD) ⟨hS, Nat.le_of_ble_eq_true rfl, Nat.le_of_ble_eq_true rfl⟩
end START2
theorem whole_start {p : Program} {e : Env} {s : State} {m : MethodId} {below : List Frame} {meth : Method} {c : Code} (l : Launch) (hflags : l.flags = flags0) {b L : Nat} {xs : Nat → Int32} (hL : L ≤ 260) (C0 : lw_At p s m meth c b L xs) : W p l e room_1 s m #[Value.ref b] below meth c s.heap [] 0 0 (lw_Z below #[Value.ref b] s) (entryFrame m ([Value.ref b] : List Value).toArray 3) := by
  have hts := C0.2.2.2.2.2.1
  have kn : ∀ ci, ci < 6 → ∃ (cC : ClassId) (iS : Nat → Nat), u_Kn s (fR ci) (fT ci) (fN ci) cC iS := by
    intro ci h
    have hi : Cond.instantiable (fR ci) (fN ci) ∈ gtbl := by
      rcases (by omega : ci = 0 ∨ ci = 1 ∨ ci = 2 ∨ ci = 3 ∨ ci = 4 ∨ ci = 5) with rfl | rfl | rfl | rfl | rfl | rfl
      · exact n_X4_16.2.1
      · exact n_X4_31.2.1
      · exact n_X4_7.2.1
      · exact n_X4_38.2.1
      · exact n_L_10.2.1
      · exact n_L_10.2.1
    exact u_known hts (fun w hw => gm (cls_in ci h w hw)) (hts _ (gm hi))
  obtain ⟨c0, i0, k0⟩ := kn 0 (by omega)
  obtain ⟨c1, i1, k1⟩ := kn 1 (by omega)
  obtain ⟨c2, i2, k2⟩ := kn 2 (by omega)
  obtain ⟨c3, i3, k3⟩ := kn 3 (by omega)
  obtain ⟨c4, i4, k4⟩ := kn 4 (by omega)
  obtain ⟨c5, i5, k5⟩ := kn 5 (by omega)
  have hoS : (Cond.arrayOver (.object "ScoutGates$State")).before #[Value.ref b] s = true := hts _ (List.mem_of_getElem? (i := 121) (by decide +kernel))
  have hoT : (Cond.arrayOver (.object "ScoutGates$Troop")).before #[Value.ref b] s = true := hts _ (List.mem_of_getElem? (i := 34) (by decide +kernel))
  obtain ⟨t6, t6a⟩ := ty_num (hts _ (gm a_int)) (Or.inl rfl)
  obtain ⟨t7, t7a⟩ := ty_num (hts _ (gm a_char)) (Or.inr (Or.inl rfl))
  obtain ⟨t8, t8a⟩ := ty_num (hts _ (gm a_boolean)) (Or.inr (Or.inr rfl))
  obtain ⟨t9, t9a⟩ := ty_obj hoS
  obtain ⟨t10, t10a⟩ := ty_obj hoT
  obtain ⟨G, hG1, hG0, hG, hK⟩ : ∃ G : mG, G.1 = l ∧ G.2.2.2 0 = s.heap.size ∧ adG G ∧ va_K G.2.1 mcl (mTy G) s := by
    refine ⟨(l, (fun k => if k = 0 then c0 else if k = 1 then c1 else if k = 2 then c2 else if k = 3 then c3 else if k = 4 then c4 else c5, fun k => if k = 0 then i0 else if k = 1 then i1 else if k = 2 then i2 else if k = 3 then i3 else if k = 4 then i4 else i5), fun t => if t = 6 then t6 else if t = 7 then t7 else if t = 8 then t8 else if t = 9 then t9 else t10, fun a => s.heap.size + a), rfl, rfl, fun a => rfl, ?_, ?_⟩
    · intro k q hq
      have hk : k < 6 := (List.getElem?_eq_some_iff.mp hq).1
      obtain rfl : (fR k, fT k, fN k) = q := Option.some.inj ((cls_at k hk).symm.trans hq)
      rcases (by omega : k = 0 ∨ k = 1 ∨ k = 2 ∨ k = 3 ∨ k = 4 ∨ k = 5) with rfl | rfl | rfl | rfl | rfl | rfl
      · exact k0
      · exact k1
      · exact k2
      · exact k3
      · exact k4
      · exact k5
    · intro k q hq
      have hk : k < 5 := (List.getElem?_eq_some_iff.mp hq).1
      rcases (by omega : k = 0 ∨ k = 1 ∨ k = 2 ∨ k = 3 ∨ k = 4) with rfl | rfl | rfl | rfl | rfl
      · cases hq; exact t6a
      · cases hq; exact t7a
      · cases hq; exact t8a
      · cases hq; exact t9a
      · cases hq; exact t10a
  have hl := lv_entry ([.ref b]) (n := 3) (Nat.le_of_ble_eq_true rfl)
  rw [lg_entry_eq]
  generalize (lg_sl ([.ref b]) ++ List.replicate (3 - (lg_sl ([.ref b])).length) Slot.unset).toArray = ls at hl ⊢
  have hl : lv_has ls 3 [(0, .ref b)] := hl
  have st := @start_G p e s m below meth c G b L xs C0 hK ⟨va_AO.of hoS, va_AO.of hoT⟩ hG hL
  subst hG1
  exact st s.heap ls hl hG0.symm (fun k q h => by simp [mB] at h) ⟨fun i j p q h => by simp [mB] at h, fun k q h => by simp [mB] at h⟩ va_S.rf
