/-! constructors: what makes and fills cells -/
def clR (own : String) (i ci : Nat) : Prop := (ci < 6 ∧ Cond.classLink own i (fR ci) ∈ gtbl) ∧ Cond.instantiable (fR ci) (fN ci) ∈ gtbl ∧ Cond.initialized (fR ci) ∈ gtbl
def arC (t : Nat) : FieldType := match t with | 6 => .int | 7 => .char | 8 => .boolean | 9 => .object "ScoutGates$State" | _ => .object "ScoutGates$Troop"
theorem mTy_at {G : mG} {t : Nat} (h : 6 ≤ t) (h2 : t < 11) : (mTy G)[t - 6]? = some (G.2.2.1 t, arC t) := by
  rcases (by omega : t = 6 ∨ t = 7 ∨ t = 8 ∨ t = 9 ∨ t = 10) with rfl | rfl | rfl | rfl | rfl <;> rfl
theorem va_S.grow {A : Nat → Prop} {H0 H H1 : Heap} {locs : List Loc} {h : Nat} (hS : va_S A H0 H locs) (hh : H.size = h) (z : H1.size = h + 1) (o : ∀ q, q < h → H1[q]? = H[q]?) : va_S A H0 H1 locs := by
  subst hh
  exact ⟨Nat.le_trans hS.1 (by omega), fun x h1 h2 => (o x (Nat.lt_of_lt_of_le h1 hS.1)).trans (hS.2.1 x h1 h2), hS.2.2⟩
theorem va_P.grow {D : va_G} {cl : List vw_C} {ws : va_W} {H H1 : Heap} {h : Nat} {e : va_E} (hP : va_P D cl ws H) (hh : H.size = h) (o : ∀ q, q < h → H1[q]? = H[q]?) (he : va_at D cl (h, e) H1) : va_P D cl (ws ++ [(h, e)]) H1 := by
  subst hh
  refine (hP.kept (fun k x hx => o x.1 ((hP k x hx).lt))).app (fun k x hx => ?_)
  have hz : k < 1 := (List.getElem?_eq_some_iff.mp hx).1
  rw [show k = 0 by omega] at hx
  cases hx
  exact he
section INITB
variable {G : mG} {d nc ns : Nat} {M : mM} {S : mS} {pr : mP} {R : mS → mP → Prop} {n1 n kc ks pc : Nat} {lo : List (Nat × Value)} {st : List Value}
theorem b_new {i ci : Nat} (hG : adG G) (hcl : clR M.1.cls i ci) (hk : kd n = ci) (h0 : ∀ k, S n k = 0) (h1 : ∀ k, pr n k = false) (hc : kc + 1 ≤ nc) (hs : ks + fN ci ≤ ns) (hd : decode M.2.1 pc = .ok (.new i, 3)) (k : Bt G d nc ns M R n1 (pc + 3) lo (rv G n :: st) S pr (n + 1) (kc + 1) (ks + fN ci)) : Bt G d nc ns M R n1 pc lo st S pr n kc ks := by
  intro p e s m args below meth c A H locs ls C hN hl hz hP hD hS
  have hci := hcl.1.1
  have hK := C.2.2.2.2.2.2.2.1
  have hKn := hK.1 ci _ (cls_at ci hci)
  have hts := C.2.2.2.2.2.1
  refine W.newcK (h := G.2.2.2 n) C.1 C.2.1 C.2.2.2.2.1 (hts _ (List.mem_cons_of_mem _ hcl.1.2)) (hts _ (List.mem_cons_of_mem _ hcl.2.1)) (hts _ (List.mem_cons_of_mem _ hcl.2.2)) rfl hd hc hs hKn.2.1 hz fun H1 kC hkC e1 z1 o1 => ?_
  have hP1 : va_P G.2.1 mcl (mB G S pr n ++ [(G.2.2.2 n, .inr (ci, cFs G S pr n ci))]) H1 := hP.grow hz o1 ⟨_, cls_at ci hci, (u_born (fY ci) hts (fun w hw => List.mem_cons_of_mem _ (cls_in ci hci w hw)) hKn hkC e1 (cls_ty ci hci)).to (cFs_new hci h0 h1)⟩
  have hD1 : va_D A (mB G S pr n ++ [(G.2.2.2 n, .inr (ci, cFs G S pr n ci))]) := hD.push hP hz.symm (C.2.2.2.2.2.2.2.2 _ (by rw [← hz]; exact hS.1))
  rw [← cellQ_o hk hci, mB_push] at hP1 hD1
  exact k _ _ _ _ _ _ _ _ _ _ _ _ C hN hl (z1.trans (hG n).symm) hP1 hD1 (hS.grow hz z1 o1)
theorem b_newa {atype : ArrayType} {t N : Nat} {x : Int32} (hG : adG G) (hk : kd n = t) (ht : 6 ≤ t ∧ t < 9) (hty : newarray.typeOf atype = arC t) (hl1 : ln n = N) (hx : x = nI N) (hN1 : N < 10000) (h0 : ∀ k, S n k = 0) (har : Cond.arrayClass (newarray.typeOf atype) ∈ gtbl) (hc : kc + 1 ≤ nc) (hs : ks + N ≤ ns) (hd : decode M.2.1 pc = .ok (.newarray atype, 2)) (k : Bt G d nc ns M R n1 (pc + 2) lo (rv G n :: st) S pr (n + 1) (kc + 1) (ks + N)) : Bt G d nc ns M R n1 pc lo (.int x :: st) S pr n kc ks := by
  intro p e s m args below meth c A H locs ls C hN hl hz hP hD hS
  have hK := C.2.2.2.2.2.2.2.1
  have hts := C.2.2.2.2.2.1
  have hK2 := (hK.2 (t - 6) _ (mTy_at ht.1 (by omega))).2
  refine va_newaK (h := G.2.2.2 n) (N := N) C.1 C.2.1 (hts _ (List.mem_cons_of_mem _ har)) rfl hd rfl (by rw [hx]; exact nI_pos (by omega)) (by rw [hx]; exact nI_clamp (by omega)) ?_ hc hs hz fun H1 cA e1 z1 o1 hAr hNm => ?_
  · have : componentBytes (newarray.typeOf atype) ≤ 8 := by cases atype <;> decide
    have := Nat.mul_le_mul (Nat.le_of_lt hN1) this
    omega
  · have hcA : G.2.2.1 t = cA := by
      rw [hty] at hNm
      rcases (by omega : t = 6 ∨ t = 7 ∨ t = 8) with rfl | rfl | rfl <;> exact Option.some.inj (hK2.symm.trans hNm)
    have he : defaultValue (newarray.typeOf atype) = .int 0 := by
      rw [hty]; rcases (by omega : t = 6 ∨ t = 7 ∨ t = 8) with rfl | rfl | rfl <;> rfl
    have hP1 : va_P G.2.1 mcl (mB G S pr n ++ [(G.2.2.2 n, cellQ G S pr n)]) H1 := hP.grow hz o1 (by
      rw [cellQ_i hk (by omega) ht.2, hl1, hcA]
      show H1[G.2.2.2 n]? = some (arrV cA N (fun j => .int (S n j)))
      rw [e1, he]
      congr 2
      funext j
      rw [h0])
    have hD1 : va_D A (mB G S pr n ++ [(G.2.2.2 n, cellQ G S pr n)]) := hD.push hP hz.symm (C.2.2.2.2.2.2.2.2 _ (by rw [← hz]; exact hS.1))
    rw [mB_push] at hP1 hD1
    exact k _ _ _ _ _ _ _ _ _ _ _ _ C hN hl (z1.trans (hG n).symm) hP1 hD1 (hS.grow hz z1 o1)
theorem b_newq {i t N : Nat} {x : Int32} {Cn : String} (hG : adG G) (hk : kd n = t) (ht : 9 ≤ t ∧ t < 11) (hty : arC t = .object Cn) (hl1 : ln n = N) (hx : x = nI N) (hN1 : N < 10000) (h1 : ∀ k, pr n k = false) (hcl : Cond.classLink M.1.cls i Cn ∈ gtbl) (har : ∀ U, vAO U → va_AO Cn U) (hc : kc + 1 ≤ nc) (hs : ks + N ≤ ns) (hd : decode M.2.1 pc = .ok (.anewarray i, 3)) (k : Bt G d nc ns M R n1 (pc + 3) lo (rv G n :: st) S pr (n + 1) (kc + 1) (ks + N)) : Bt G d nc ns M R n1 pc lo (.int x :: st) S pr n kc ks := by
  intro p e s m args below meth c A H locs ls C hN hl hz hP hD hS
  have hK := C.2.2.2.2.2.2.2.1
  have hts := C.2.2.2.2.2.1
  have hK2 := (hK.2 (t - 6) _ (mTy_at (by omega) ht.2)).2
  have hxN : x.toNatClampNeg = N := by rw [hx]; exact nI_clamp (by omega)
  refine W.anew C.1 C.2.1 C.2.2.2.2.1 (hts _ (List.mem_cons_of_mem _ hcl)) (va_AO.use (har s hN.2)) rfl hd rfl (by rw [hx]; exact nI_pos (by omega)) (by rw [hxN]; omega) hc (by rw [hxN]; exact hs) fun cA kA comp f1 f2 f3 f4 => ?_
  rw [hxN]
  generalize hH1 : H.push ({ cls := cA, slots := Array.replicate N .null, vm := .none } : Cell) = H1
  have z1 : H1.size = H.size + 1 := by rw [← hH1, Array.size_push]
  have e1 : H1[H.size]? = some (arrV cA N (fun _ => .null)) := by rw [← hH1, Array.getElem?_push_size, ← arrV_new]
  have o1 : ∀ q : Nat, q < H.size → H1[q]? = H[q]? := fun q hq => by rw [← hH1, Array.getElem?_push, if_neg (Nat.ne_of_lt hq)]
  rw [hz] at z1 e1 o1 ⊢
  have hcA : G.2.2.1 t = cA := by
    rw [hty] at hK2
    obtain ⟨kA2, comp2, -, -, -, g4⟩ := hK2
    exact Option.some.inj (g4.symm.trans f1)
  have hP1 : va_P G.2.1 mcl (mB G S pr n ++ [(G.2.2.2 n, cellQ G S pr n)]) H1 := hP.grow hz o1 (by
    rw [cellQ_r hk (by omega), hl1, hcA]
    show H1[G.2.2.2 n]? = some (arrV cA N (fun j => va_rf (if pr n j then some (G.2.2.2 (rf n j)) else none)))
    rw [e1]
    congr 2
    funext j
    rw [h1]
    rfl)
  have hD1 : va_D A (mB G S pr n ++ [(G.2.2.2 n, cellQ G S pr n)]) := hD.push hP hz.symm (C.2.2.2.2.2.2.2.2 _ (by rw [← hz]; exact hS.1))
  rw [mB_push] at hP1 hD1
  exact k _ _ _ _ _ _ _ _ _ _ _ _ C hN hl (z1.trans (hG n).symm) hP1 hD1 (hS.grow hz z1 o1)
theorem b_putR {i ci f a b : Nat} {Cn : FieldType} (hk : kd a = ci) (hf : FL M.1.cls i ci f) (hi : isI ci f = false) (hs : fT ci f = (fR ci, (fT ci f).2)) (hfin : (fT ci f).2.2.2 = true) (hown : fR ci = M.1.cls) (hty : fY ci f = Cn) (hn : narrow Cn (rv G b) = rv G b) (hfit : fits Cn (rv G b) = true) (hb : rf a f = b) (ha : a < n) (hd : decode M.2.1 pc = .ok (.putfield i, 3)) (k : Bt G d nc ns M R n1 (pc + 3) lo st S (upP pr a f) n kc ks) : Bt G d nc ns M R n1 pc lo (rv G b :: rv G a :: st) S pr n kc ks := by
  intro p e s m args below meth c A H locs ls C hN hl hz hP hD hS
  subst hb
  have hts := C.2.2.2.2.2.1
  have hK := C.2.2.2.2.2.2.2.1
  have hin : ∀ w ∈ u_ws (fR ci) (fT ci) (fN ci), w ∈ mWs M := fun w hw => List.mem_cons_of_mem _ (cls_in ci hf.1.1 w hw)
  have he : (mB G S pr n)[a]? = some (G.2.2.2 a, .inr (ci, cFs G S pr a ci)) := by rw [mB_at ha, cellQ_o hk hf.1.1]
  have hap := va_apart (own := M.1.cls) hts hin (fY ci) (cls_ty ci hf.1.1) (cls_nm ci hf.1.1) hK (cls_at ci hf.1.1)
  obtain ⟨r, h1, cell, q1, q2, q3, q4⟩ := hP a _ he
  obtain rfl : r = (fR ci, fT ci, fN ci) := Option.some.inj (h1.symm.trans (cls_at ci hf.1.1))
  obtain ⟨hSl, hfc, kC, hkC, hkind⟩ := hK.1 ci _ (cls_at ci hf.1.1)
  obtain ⟨cf, kf, fi, fd, hfi, hsl⟩ := hSl f hf.1.2
  have hlay := hts _ (hin _ (u_in_lay hf.1.2))
  unfold u_lay at hlay
  rw [if_pos hfin] at hlay
  have hst := (u_facts hfc hkC (u_lays hts hin hf.1.2) hfi).1
  have hcf : m.cls = cf := by
    obtain ⟨_, _, c', _, _, _, -, -, hf', -, -, -, hown2, -⟩ := Cond.laysFinal_spec hlay
    have e1 : c' = cf := by have := hfi.symm.trans hf'; simp at this; exact this.1.symm
    rw [hs] at hown2
    rw [show (fR ci, (fT ci f).2).1 = M.1.cls from hown] at hown2
    rw [← e1]; exact Option.some.inj (C.2.2.2.2.1.symm.trans hown2)
  have h6 := u_fits hfc hkC hkind (Or.inr hlay) hfi (show parseFieldDescriptor (fT ci f).2.2.1 = some Cn by rw [cls_ty ci hf.1.1 f hf.1.2, hty]) hn hfit
  refine W.putFinK C.1 C.2.1 C.2.2.2.2.1 (hts _ (List.mem_cons_of_mem _ hf.2)) (by have z : s.fieldFound? (fT ci f).1 (fT ci f).2.1 (fT ci f).2.2.1 = some (cf, kf, fi, fd) := hfi; rw [show (fT ci f).1 = fR ci from congrArg Prod.fst hs] at z; exact z) hst hcf hN.1 (by rw [q2]; exact h6) q1 q3 (by rw [hsl]; exact k2_hasslot (q4 f hf.1.2)) rfl rfl hd fun H1 e1 e2 e3 => ?_
  rw [hsl] at e1 ⊢
  have hP1 := hP.set (e := .inr (ci, (cFs G S pr a ci).set f (rv G (rf a f)))) hD he ⟨_, cls_at ci hf.1.1, t_OB.to (V := updV (vp_V (cFs G S pr a ci)) f (rv G (rf a f))) ⟨_, e1, q2, q3, t_set q4 hap hf.1.2 (rv G (rf a f))⟩ (fun j _ => vp_updV_set (by rw [cFs_len]; exact hf.1.2) (rv G (rf a f)) j)⟩ e3
  have hD1 := hD.set (e := .inr (ci, (cFs G S pr a ci).set f (rv G (rf a f)))) he
  rw [cFs_set hi, ← cellQ_o hk hf.1.1, mB_set ha (fun _ _ => rfl) (fun b hb => upP_n hb)] at hP1 hD1
  exact k _ _ _ _ _ _ _ _ _ _ _ _ C hN hl (e2.trans hz) hP1 hD1 (hS.put e2 e3 (hD.2 a _ he))
theorem b_iast {a j : Nat} {x y : Int32} (hk : kd a = 6) (hx : x = nI j) (hj : j < ln a) (ha : a < n) (hd : decode M.2.1 pc = .ok (.iastore, 1)) (k : Bt G d nc ns M R n1 (pc + 1) lo st (up1 S a (upd (S a) j y)) pr n kc ks) : Bt G d nc ns M R n1 pc lo (.int y :: .int x :: rv G a :: st) S pr n kc ks := by
  intro p e s m args below meth c A H locs ls C hN hl hz hP hD hS
  have he : (mB G S pr n)[a]? = some (G.2.2.2 a, .inl (G.2.2.1 6, ln a, .inl (S a))) := by rw [mB_at ha, cellQ_i hk (by decide) (by decide)]
  have ej : x.toNatClampNeg = j := by rw [hx]; exact nI_clamp (by have := ln_small a; omega)
  refine W.iast C.1 C.2.1 (hP a _ he) ((C.2.2.2.2.2.2.2.1.2 0 _ rfl).1 (ln a) (fun j => .int (S a j))) (fun q => by cases q) (by show ¬ (x < 0 ∨ (arrV _ _ _).slots.size ≤ _); rw [arrV_size]; exact in_of hx hj (ln_small a)) rfl rfl hd fun H1 e1 z oq => ?_
  have hP1 : va_P G.2.1 mcl ((mB G S pr n).set a (G.2.2.2 a, .inl (G.2.2.1 6, ln a, .inl (upd (S a) j y)))) H1 := hP.set hD he (by
    show H1[G.2.2.2 a]? = some (vp_cell _ _)
    rw [e1]
    rw [vp_cell_i, vp_cell_i, arrV_store, ej]
    congr 2
    funext q
    by_cases hq : q = j
    · subst hq
      simp [updV, upd]
    · simp [updV, upd, hq]) oq
  have hD1 := hD.set (e := .inl (G.2.2.1 6, ln a, .inl (upd (S a) j y))) he
  have e2 : (Sum.inl (G.2.2.1 6, ln a, Sum.inl (upd (S a) j y)) : va_E) = cellQ G (up1 S a (upd (S a) j y)) pr a := by rw [cellQ_i hk (by decide) (by decide), up1_s]
  rw [e2, mB_set ha (fun b hb => up1_n hb) (fun _ _ => rfl)] at hP1 hD1
  exact k _ _ _ _ _ _ _ _ _ _ _ _ C hN hl (z.trans hz) hP1 hD1 (hS.put z oq (hD.2 a _ he))
theorem b_aast {a j b t ci : Nat} {x : Int32} (hk : kd a = t) (ht : 9 ≤ t ∧ t < 11) (hty : arC t = .object (fR ci)) (hkb : kd b = ci) (hci : ci < 6) (hb : rf a j = b) (hbn : b < n) (hx : x = nI j) (hj : j < ln a) (ha : a < n) (hd : decode M.2.1 pc = .ok (.aastore, 1)) (k : Bt G d nc ns M R n1 (pc + 1) lo st S (upP pr a j) n kc ks) : Bt G d nc ns M R n1 pc lo (rv G b :: .int x :: rv G a :: st) S pr n kc ks := by
  intro p e s m args below meth c A H locs ls C hN hl hz hP hD hS
  have he : (mB G S pr n)[a]? = some (G.2.2.2 a, .inl (G.2.2.1 t, ln a, .inr (.inr (.inr (.inr (fun k => if pr a k then some (G.2.2.2 (rf a k)) else none)))))) := by rw [mB_at ha, cellQ_r hk (by omega)]
  have hv : (mB G S pr n)[b]? = some (G.2.2.2 b, .inr (ci, cFs G S pr b ci)) := by rw [mB_at hbn, cellQ_o hkb hci]
  have ej : x.toNatClampNeg = j := by rw [hx]; exact nI_clamp (by have := ln_small a; omega)
  have hK := C.2.2.2.2.2.2.2.1
  have hi := in_of hx hj (ln_small a)
  have hlt : x.toNatClampNeg < ln a := Nat.not_le.mp fun q => hi (Or.inr q)
  have h0 : ¬ x < 0 := fun q => hi (Or.inl q)
  obtain ⟨r', hr', cellV, g1, g2, g3, -⟩ := hP b _ hv
  have hcls := (hK.1 ci _ (cls_at ci hci)).2
  have hK2 := (hK.2 (t - 6) _ (mTy_at (by omega) ht.2)).2
  rw [hty] at hK2
  obtain ⟨kA, comp, k1, k2, k3, -⟩ := hK2
  have hcomp : comp = G.2.1.1 ci := Option.some.inj (k3.symm.trans hcls.1)
  subst hcomp
  obtain ⟨kC, hkC, -⟩ := hcls.2
  refine W.aast C.1 C.2.1 (hP a _ he) (fun q h => by cases h) (fun h => by cases h) k1 k2 rfl hkC ⟨h0, by show _ < (arrV _ _ _).slots.size; rw [arrV_size]; exact hlt⟩ g1 (fun q h => by rw [g3] at h; cases h) (by rw [g2]; exact hkC) (by rw [g2]; exact va_assign hcls) rfl rfl hd fun H1 e1 z oq => ?_
  have hP1 : va_P G.2.1 mcl ((mB G S pr n).set a (G.2.2.2 a, .inl (G.2.2.1 t, ln a, .inr (.inr (.inr (.inr (fun k => if upP pr a j a k then some (G.2.2.2 (rf a k)) else none))))))) H1 := hP.set hD he (by
    show H1[G.2.2.2 a]? = some (vp_cell _ _)
    rw [e1]
    rw [vp_cell_q, vp_cell_q, arrV_store, ej]
    congr 2
    funext q
    by_cases hq : q = j
    · subst hq
      simp [updV, upP, va_rf, hb]
    · simp [updV, upP, hq]) oq
  have hD1 := hD.set (e := .inl (G.2.2.1 t, ln a, .inr (.inr (.inr (.inr (fun k => if upP pr a j a k then some (G.2.2.2 (rf a k)) else none)))))) he
  rw [← cellQ_r (S := S) hk (by omega), mB_set ha (fun _ _ => rfl) (fun b hb => upP_n hb)] at hP1 hD1
  exact k _ _ _ _ _ _ _ _ _ _ _ _ C hN hl (z.trans hz) hP1 hD1 (hS.put z oq (hD.2 a _ he))
theorem b_objInit {i a : Nat} (h1 : Cond.methodLink M.1.cls i objectInit ∈ gtbl) (h2 : Cond.instanceMethod objectInit ∈ gtbl) (h3 : Cond.code objectInit ⟨#[0xb1]⟩ 1 none ∈ gtbl) (hd1 : 1 ≤ d) (hr : (st.map fun v => v.category).sum ≤ 18) (hd : decode M.2.1 pc = .ok (.invokespecial i, 3)) (k : Bt G d nc ns M R n1 (pc + 3) lo st S pr n kc ks) : Bt G d nc ns M R n1 pc lo (rv G a :: st) S pr n kc ks := by
  intro p e s m args below meth c A H locs ls C hN hl hz hP hD hS
  have hts := C.2.2.2.2.2.1
  refine W.objInit C.1 C.2.1 C.2.2.2.2.1 (hts _ (List.mem_cons_of_mem _ h1)) (hts _ (List.mem_cons_of_mem _ h2)) (hts _ (List.mem_cons_of_mem _ h3)) rfl (by rw [C.2.2.1]; exact hl.1) rfl hd hd1 (by show 2 * 0 + _ + 12 ≤ 30 * d; omega) ?_
  exact k _ _ _ _ _ _ _ _ _ _ _ _ C hN hl hz hP hD hS
/-- what the tables say of a constructor -/
def CO (M' : mM) : Prop := CM M' 0 ∧ (M'.1.name = "<init>" ∧ M'.2.2.2 = none) ∧ Cond.instanceMethod M'.1 ∈ gtbl
theorem b_callI {M' : mM} {i a nc2 ns2 n2 : Nat} {R2 : mS → mP → Prop} (hc : CO M') (hl1 : ML M.1.cls i M') (hr : (st.map fun v => v.category).sum ≤ 8) (hkc : kc + nc2 ≤ nc) (hks : ks + ns2 ≤ ns) (hd : decode M.2.1 pc = .ok (.invokespecial i, 3)) (hcall : CallI G d nc2 ns2 M' a S pr n R2 n2) (k : ∀ S2 p2, R2 S2 p2 → Bt G (d + 1) nc ns M R n1 (pc + 3) lo st S2 p2 n2 (kc + nc2) (ks + ns2)) : Bt G (d + 1) nc ns M R n1 pc lo (rv G a :: st) S pr n kc ks := by
  intro p e s m args below meth c A H locs ls C hN hl hz hP hD hS
  have hK := C.2.2.2.2.2.2.2.1
  have hts := C.2.2.2.2.2.1
  have hF : ∀ q, va_A (mB G S pr n) (G.2.2.2 n) q → A q := by
    intro q h
    rcases h with ⟨k, e, h⟩ | h
    · exact hD.2 k (q, e) h
    · exact C.2.2.2.2.2.2.2.2 q (Nat.le_trans hS.1 (by rw [hz]; exact h))
  have e0 := hc.2.1.2
  have hM := hcall
  unfold CallI mWs at hM
  rw [e0] at hM
  have hg : GoodIn (mWs M) (Cond.code M'.1 M'.2.1 M'.2.2.1 none :: gtbl) := by
    have z := gi_ws (fun w hw => List.mem_cons_of_mem (Cond.code M.1 M.2.1 M.2.2.1 M.2.2.2) hw) hc.1
    unfold mWs at z
    rw [e0] at z
    exact z
  refine va_callv (A1 := va_A (mB G S pr n) (G.2.2.2 n)) (va_runI (R := mRb (d + 1) nc ns) (As := []) (rest := st) ⟨C.1, C.2.1, C.2.2.1, C.2.2.2.2.1, hts⟩ hM (cwI 0 hts hg rfl rfl rfl (hts _ (List.mem_cons_of_mem _ hc.1.1.2.1)) (hts _ (List.mem_cons_of_mem _ hl1)) (hts _ (List.mem_cons_of_mem _ hc.2.2)) hc.2.1.1 hc.1.2 ⟨Nat.le_refl _, by have := hc.1.1.2.2; show 8 + (M'.2.2.1 + 11) + 30 * d ≤ 30 * (d + 1); omega⟩) ⟨fun a U g mk q => by obtain ⟨q0, q1, qP, qK, qO, qD⟩ := q; exact ⟨q0, q1, qP, va_K.moved (u := U) (U := U.calling g mk a) (Vm.Alike.refl U.vm) qK, vAO.moved (u := U) (U := U.calling g mk a) (Vm.Alike.refl U.vm) qO, qD⟩, fun U hU hW => ⟨rfl, by rw [hU]; exact hz, by rw [hU]; exact hP, va_K.moved hW.alike hK, hN.2.moved hW.alike, hD.weaken (fun _ _ _ _ => trivial)⟩⟩ rfl rfl hl.1 rfl (lv_room hr) hd ⟨hkc, hks⟩) hS (fun q _ h => hF q h) hF (fun u t H1 locs1 ht hvm hw hB hz1 hk1 hS1 => ?_)
  obtain ⟨hs1, hP1, hK1, hD1⟩ := hB
  rw [ht] at hP1 hs1
  exact k u.1 u.2 hw _ _ _ _ _ _ _ _ _ _ _ _ C hN hl hs1 hP1 (hD1.weaken (fun _ _ _ h => hF _ h)) hS1
end INITB
