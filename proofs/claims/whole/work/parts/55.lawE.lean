/-! the law: its start -/
theorem ty_num {ty : FieldType} {args : Array Value} {s : State} (h : (Cond.arrayClass ty).before args s = true) (hne : ty = .int ∨ ty = .char ∨ ty = .boolean) : ∃ cA, ArrOfT s cA ty ∧ va_RA s cA ty := by
  obtain ⟨c, k, comp, h1, h2, h3⟩ := Cond.arrayClass_spec h
  refine ⟨c, fun n z => ⟨(fun k h => by cases h), k, h2, comp, h3⟩, ?_⟩
  rcases hne with rfl | rfl | rfl <;> exact h1
theorem ty_obj {C : String} {args : Array Value} {s : State} (h : (Cond.arrayOver (.object C)).before args s = true) : ∃ cA, ArrOfT s cA (.object C) ∧ va_RA s cA (.object C) := by
  obtain ⟨comp, c, k, h1, h2, h3, h4, h5⟩ := Cond.arrayOver_spec h
  exact ⟨c, fun n z => ⟨(fun k h => by cases h), k, h3, comp, h4⟩, k, comp, h3, h4, h1, h5⟩
def LB (p : Program) (e : Env) (s : State) (m : MethodId) (below : List Frame) (meth : Method) (c : Code) (G : mG) (b : Nat) (pc : Nat) (lo : List (Nat × Value)) (st : List Value) (S : mS) (pr : mP) (n kc ks : Nat) : Prop :=
  ∀ (H : Heap) (ls : Array Slot), lv_has ls 4 lo → H.size = G.2.2.2 n → va_P G.2.1 mcl (mB G S pr n) H → va_D (fun q => s.heap.size ≤ q) (mB G S pr n) → va_S (fun q => s.heap.size ≤ q) s.heap H [] →
    W p G.1 e room_1 s m #[Value.ref b] below meth c H [] kc ks (lw_Z below #[Value.ref b] s) (F0 m pc ls st)
section START
variable {p : Program} {e : Env} {s : State} {m : MethodId} {below : List Frame} {meth : Method} {c : Code} {G : mG} {b L : Nat} {xs : Nat → Int32} {pc : Nat} {lo : List (Nat × Value)} {st : List Value} {S : mS} {pr : mP} {n kc ks : Nat}
theorem lb_new {i ci : Nat} (C0 : lw_At p s m meth c b L xs) (hK : va_K G.2.1 mcl (mTy G) s) (hG : adG G) (hcl : clR RL i ci) (hk : kd n = ci) (h0 : ∀ k, S n k = 0) (h1 : ∀ k, pr n k = false) (hc : kc + 1 ≤ 600000) (hs : ks + fN ci ≤ 7302250) (hd : decode cL_law pc = .ok (.new i, 3)) (k : LB p e s m below meth c G b (pc + 3) lo (rv G n :: st) S pr (n + 1) (kc + 1) (ks + fN ci)) : LB p e s m below meth c G b pc lo st S pr n kc ks := by
  intro H ls hl hz hP hD hS
  have hci := hcl.1.1
  have hKn := hK.1 ci _ (cls_at ci hci)
  have hts := C0.2.2.2.2.2.1
  have gm : ∀ w ∈ gtbl, w ∈ lw_tbl := fun w hw => (List.mem_filter.mp hw).1
  refine W.newcK (own := R_law) (h := G.2.2.2 n) C0.1 C0.2.1 C0.2.2.2.2.1 (hts _ (gm _ hcl.1.2)) (hts _ (gm _ hcl.2.1)) (hts _ (gm _ hcl.2.2)) rfl hd hc hs hKn.2.1 hz fun H1 kC hkC e1 z1 o1 => ?_
  have hP1 : va_P G.2.1 mcl (mB G S pr n ++ [(G.2.2.2 n, .inr (ci, cFs G S pr n ci))]) H1 := hP.grow hz o1 ⟨_, cls_at ci hci, (u_born (fY ci) hts (fun w hw => gm _ (cls_in ci hci w hw)) hKn hkC e1 (cls_ty ci hci)).to (cFs_new hci h0 h1)⟩
  have hD1 : va_D (fun q => s.heap.size ≤ q) (mB G S pr n ++ [(G.2.2.2 n, .inr (ci, cFs G S pr n ci))]) := hD.push hP hz.symm (by rw [← hz]; exact hS.1)
  rw [← cellQ_o hk hci, mB_push] at hP1 hD1
  exact k _ _ hl (z1.trans (hG n).symm) hP1 hD1 (hS.grow hz z1 o1)
theorem lb_dup {v : Value} (C0 : lw_At p s m meth c b L xs) (hd : decode cL_law pc = .ok (.dup, 1)) (hc : v.category = 1) (k : LB p e s m below meth c G b (pc + 1) lo (v :: v :: st) S pr n kc ks) : LB p e s m below meth c G b pc lo (v :: st) S pr n kc ks := by
  intro H ls hl hz hP hD hS
  exact lv_dup C0.1 C0.2.1 hd hc (k _ _ hl hz hP hD hS)
theorem lb_astore_n {i : Fin 4} {j : Nat} {x : Nat} {lo2 : List (Nat × Value)} (C0 : lw_At p s m meth c b L xs) (hd : decode cL_law pc = .ok (.astore_n i, 1)) (hi : (i : Nat) = j) (hn : j < 4) (ps : List Nat) (hs : lv_pick ((j, rv G x) :: lo.filter (fun q => !(q.1 == j) && !(q.1 + 1 == j && q.2.category == 2))) ps = lo2) (k : LB p e s m below meth c G b (pc + 1) lo2 st S pr n kc ks) : LB p e s m below meth c G b pc lo (rv G x :: st) S pr n kc ks := by
  intro H ls hl hz hP hD hS
  exact lv_astore_n C0.1 C0.2.1 hd hi hl hn rfl (fun ls' hl => k _ _ (lv_sub hl ps hs) hz hP hD hS)
theorem lb_istore_n {i : Fin 4} {j : Nat} {x : Int32} {lo2 : List (Nat × Value)} (C0 : lw_At p s m meth c b L xs) (hd : decode cL_law pc = .ok (.istore_n i, 1)) (hi : (i : Nat) = j) (hn : j < 4) (ps : List Nat) (hs : lv_pick ((j, .int x) :: lo.filter (fun q => !(q.1 == j) && !(q.1 + 1 == j && q.2.category == 2))) ps = lo2) (k : LB p e s m below meth c G b (pc + 1) lo2 st S pr n kc ks) : LB p e s m below meth c G b pc lo (.int x :: st) S pr n kc ks := by
  intro H ls hl hz hP hD hS
  exact lv_istore_n C0.1 C0.2.1 hd hi hl hn rfl (fun ls' hl => k _ _ (lv_sub hl ps hs) hz hP hD hS)
theorem lb_iconst {i : Int} {v : Int32} (C0 : lw_At p s m meth c b L xs) (hd : decode cL_law pc = .ok (.iconst i, 1)) (hv : Int32.ofInt i = v) (k : LB p e s m below meth c G b (pc + 1) lo (.int v :: st) S pr n kc ks) : LB p e s m below meth c G b pc lo st S pr n kc ks := by
  intro H ls hl hz hP hD hS
  exact lv_iconst C0.1 C0.2.1 hd hv (k _ _ hl hz hP hD hS)
theorem lb_callI {M' : mM} {i a nc2 ns2 n2 : Nat} {R2 : mS → mP → Prop} (C0 : lw_At p s m meth c b L xs) (hK : va_K G.2.1 mcl (mTy G) s) (hO : vAO s) (hc : CO M') (hl1 : ML RL i M') (hr : (st.map fun v => v.category).sum ≤ 8) (hkc : kc + nc2 ≤ 600000) (hks : ks + ns2 ≤ 7302250) (hd : decode cL_law pc = .ok (.invokespecial i, 3)) (hcall : CallI G 11 nc2 ns2 M' a S pr n R2 n2) (k : ∀ S2 p2, R2 S2 p2 → LB p e s m below meth c G b (pc + 3) lo st S2 p2 n2 (kc + nc2) (ks + ns2)) (hR : nc2 ≤ 600000 ∧ ns2 ≤ 7302250) : LB p e s m below meth c G b pc lo (rv G a :: st) S pr n kc ks := by
  intro H ls hl hz hP hD hS
  have hts := C0.2.2.2.2.2.1
  have gm : ∀ w ∈ gtbl, w ∈ lw_tbl := fun w hw => (List.mem_filter.mp hw).1
  have hF : ∀ q, va_A (mB G S pr n) (G.2.2.2 n) q → s.heap.size ≤ q := by
    intro q h
    rcases h with ⟨k, e, h⟩ | h
    · exact hD.2 k (q, e) h
    · exact Nat.le_trans hS.1 (by rw [hz]; exact h)
  have e0 := hc.2.1.2
  have hM := hcall
  unfold CallI mWs at hM
  rw [e0] at hM
  have hg : GoodIn lw_tbl (Cond.code M'.1 M'.2.1 M'.2.2.1 none :: gtbl) := by
    have z := gi_ws (big := lw_tbl) gm hc.1
    unfold mWs at z
    rw [e0] at z
    exact z
  refine va_callv (A1 := va_A (mB G S pr n) (G.2.2.2 n)) (va_runI (R := room_1) (As := []) (rest := st) (own := R_law) (Ts := lw_tbl) ⟨C0.1, C0.2.1, C0.2.2.2.1, C0.2.2.2.2.1, hts⟩ hM (cwI 0 hts hg rfl rfl rfl (hts _ (gm _ hc.1.1.2.1)) (hts _ (gm _ hl1)) (hts _ (gm _ hc.2.2)) hc.2.1.1 hc.1.2 ⟨Nat.le_of_ble_eq_true rfl, by have := hc.1.1.2.2; show 8 + (M'.2.2.1 + 11) + 330 ≤ 452; omega⟩) ⟨fun a U g mk q => by obtain ⟨q0, q1, qP, qK, qO, qD⟩ := q; exact ⟨q0, q1, qP, va_K.moved (u := U) (U := U.calling g mk a) (Vm.Alike.refl U.vm) qK, vAO.moved (u := U) (U := U.calling g mk a) (Vm.Alike.refl U.vm) qO, qD⟩, fun U hU hW => ⟨rfl, by rw [hU]; exact hz, by rw [hU]; exact hP, va_K.moved hW.alike hK, hO.moved hW.alike, hD.weaken (fun _ _ _ _ => trivial)⟩⟩ rfl rfl hl.1 rfl (lv_room hr) hd ⟨hkc, hks⟩) hS (fun q _ h => hF q h) hF (fun u t H1 locs1 ht hvm hw hB hz1 hk1 hS1 => ?_)
  obtain ⟨hs1, hP1, hK1, hD1⟩ := hB
  rw [ht] at hP1 hs1
  refine va_forget (fun q hq => hS1.2.2 q hq) ?_
  exact k u.1 u.2 hw _ _ hl hs1 hP1 (hD1.weaken (fun _ _ _ h => hF _ h)) ⟨hS1.1, hS1.2.1, fun _ h => absurd h List.not_mem_nil⟩
end START
