/-! constructors: what makes and fills cells -/
def clR (own : String) (i ci : Nat) : Prop := (ci < 6 ∧ Cond.classLink own i (fR ci) ∈ gtbl) ∧ Cond.instantiable (fR ci) (fN ci) ∈ gtbl ∧ Cond.initialized (fR ci) ∈ gtbl
def arC (t : Nat) : FieldType := match t with | 6 => .int | 7 => .char | 8 => .boolean | 9 => .object "ScoutGates$State" | _ => .object "ScoutGates$Troop"
theorem mTy_at {G : mG} {t : Nat} (h : 6 ≤ t) (h2 : t < 11) : (mTy G)[t - 6]? = some (G.2.2.1 t, arC t) := by
  rcases (by omega : t = 6 ∨ t = 7 ∨ t = 8 ∨ t = 9 ∨ t = 10) with rfl | rfl | rfl | rfl | rfl <;> rfl
theorem va_S.grow {A : Nat → Prop} {H0 H H1 : Heap} {locs : List Loc} {h : Nat} (hS : va_S A H0 H locs) (hh : H.size = h) (z : H1.size = h + 1) (o : ∀ q, q < h → H1[q]? = H[q]?) : va_S A H0 H1 locs := by
  subst hh
  exact ⟨Nat.le_trans hS.1 (by omega), fun x h1 h2 => (o x (Nat.lt_of_lt_of_le h1 hS.1)).trans (hS.2.1 x h1 h2), hS.2.2⟩
theorem va_P.grow {D : va_G} {cl : List vw_C} {ws : va_W} {H H1 : Heap} {h : Nat} {e : va_E} (hP : va_P D cl ws H) (hh : H.size = h) (o : ∀ q, q < h → H1[q]? = H[q]?) (he : va_at D cl (h, e) H1) : va_P D cl (ws ++ [(h, e)]) H1 := by
  subst hh
  refine (hP.kept (fun k x hx => o x.1 ((hP k x hx).lt))).app (fun k x hx => ?_)
  have hz : k < 1 := (List.getElem?_eq_some_iff.mp hx).1
  rw [show k = 0 by omega] at hx
  cases hx
  exact he
section INITB
variable {G : mG} {d nc ns : Nat} {M : mM} {S1 S : mS} {p1 pr : mP} {n1 n kc ks pc : Nat} {lo : List (Nat × Value)} {st : List Value}
theorem b_new {i ci : Nat} (hG : adG G) (hcl : clR M.1.cls i ci) (hk : kd n = ci) (h0 : ∀ k, S n k = 0) (h1 : ∀ k, pr n k = false) (hc : kc + 1 ≤ nc) (hs : ks + fN ci ≤ ns) (hd : decode M.2.1 pc = .ok (.new i, 3)) (k : Bt G d nc ns M S1 p1 n1 (pc + 3) lo (rv G n :: st) S pr (n + 1) (kc + 1) (ks + fN ci)) : Bt G d nc ns M S1 p1 n1 pc lo st S pr n kc ks := by
  intro p e s m args below meth c A H locs ls C hN hl hz hP hD hS
  have hci := hcl.1.1
  have hK := C.2.2.2.2.2.2.2.1
  have hKn := hK.1 ci _ (cls_at ci hci)
  have hts := C.2.2.2.2.2.1
  refine W.newcK (h := G.2.2.2 n) C.1 C.2.1 C.2.2.2.2.1 (hts _ (List.mem_cons_of_mem _ hcl.1.2)) (hts _ (List.mem_cons_of_mem _ hcl.2.1)) (hts _ (List.mem_cons_of_mem _ hcl.2.2)) rfl hd hc hs hKn.2.1 hz fun H1 kC hkC e1 z1 o1 => ?_
  have hP1 : va_P G.2.1 mcl (mB G S pr n ++ [(G.2.2.2 n, .inr (ci, cFs G S pr n ci))]) H1 := hP.grow hz o1 ⟨_, cls_at ci hci, (u_born (fY ci) hts (fun w hw => List.mem_cons_of_mem _ (cls_in ci hci w hw)) hKn hkC e1 (cls_ty ci hci)).to (cFs_new hci h0 h1)⟩
  have hD1 : va_D A (mB G S pr n ++ [(G.2.2.2 n, .inr (ci, cFs G S pr n ci))]) := hD.push hP hz.symm (C.2.2.2.2.2.2.2.2 _ (by rw [← hz]; exact hS.1))
  rw [← cellQ_o hk hci, mB_push] at hP1 hD1
  exact k _ _ _ _ _ _ _ _ _ _ _ _ C hN hl (z1.trans (hG n).symm) hP1 hD1 (hS.grow hz z1 o1)
theorem b_newa {atype : ArrayType} {t N : Nat} {x : Int32} (hG : adG G) (hk : kd n = t) (ht : 6 ≤ t ∧ t < 9) (hty : newarray.typeOf atype = arC t) (hl1 : ln n = N) (hx : x = nI N) (hN1 : N < 10000) (h0 : ∀ k, S n k = 0) (har : Cond.arrayClass (newarray.typeOf atype) ∈ gtbl) (hc : kc + 1 ≤ nc) (hs : ks + N ≤ ns) (hd : decode M.2.1 pc = .ok (.newarray atype, 2)) (k : Bt G d nc ns M S1 p1 n1 (pc + 2) lo (rv G n :: st) S pr (n + 1) (kc + 1) (ks + N)) : Bt G d nc ns M S1 p1 n1 pc lo (.int x :: st) S pr n kc ks := by
  intro p e s m args below meth c A H locs ls C hN hl hz hP hD hS
  have hK := C.2.2.2.2.2.2.2.1
  have hts := C.2.2.2.2.2.1
  have hK2 := (hK.2 (t - 6) _ (mTy_at ht.1 (by omega))).2
  refine va_newaK (h := G.2.2.2 n) (N := N) C.1 C.2.1 (hts _ (List.mem_cons_of_mem _ har)) rfl hd rfl (by rw [hx]; exact nI_pos (by omega)) (by rw [hx]; exact nI_clamp (by omega)) ?_ hc hs hz fun H1 cA e1 z1 o1 hAr hNm => ?_
  · have : componentBytes (newarray.typeOf atype) ≤ 8 := by cases atype <;> decide
    have := Nat.mul_le_mul (Nat.le_of_lt hN1) this
    omega
  · have hcA : G.2.2.1 t = cA := by
      rw [hty] at hNm
      rcases (by omega : t = 6 ∨ t = 7 ∨ t = 8) with rfl | rfl | rfl <;> exact Option.some.inj (hK2.symm.trans hNm)
    have he : defaultValue (newarray.typeOf atype) = .int 0 := by
      rw [hty]; rcases (by omega : t = 6 ∨ t = 7 ∨ t = 8) with rfl | rfl | rfl <;> rfl
    have hP1 : va_P G.2.1 mcl (mB G S pr n ++ [(G.2.2.2 n, cellQ G S pr n)]) H1 := hP.grow hz o1 (by
      rw [cellQ_i hk (by omega) ht.2, hl1, hcA]
      show H1[G.2.2.2 n]? = some (arrV cA N (fun j => .int (S n j)))
      rw [e1, he]
      congr 2
      funext j
      rw [h0])
    have hD1 : va_D A (mB G S pr n ++ [(G.2.2.2 n, cellQ G S pr n)]) := hD.push hP hz.symm (C.2.2.2.2.2.2.2.2 _ (by rw [← hz]; exact hS.1))
    rw [mB_push] at hP1 hD1
    exact k _ _ _ _ _ _ _ _ _ _ _ _ C hN hl (z1.trans (hG n).symm) hP1 hD1 (hS.grow hz z1 o1)
theorem b_newq {i t N : Nat} {x : Int32} {Cn : String} (hG : adG G) (hk : kd n = t) (ht : 9 ≤ t ∧ t < 11) (hty : arC t = .object Cn) (hl1 : ln n = N) (hx : x = nI N) (hN1 : N < 10000) (h1 : ∀ k, pr n k = false) (hcl : Cond.classLink M.1.cls i Cn ∈ gtbl) (har : Cond.arrayOver (.object Cn) ∈ gtbl) (hc : kc + 1 ≤ nc) (hs : ks + N ≤ ns) (hd : decode M.2.1 pc = .ok (.anewarray i, 3)) (k : Bt G d nc ns M S1 p1 n1 (pc + 3) lo (rv G n :: st) S pr (n + 1) (kc + 1) (ks + N)) : Bt G d nc ns M S1 p1 n1 pc lo (.int x :: st) S pr n kc ks := by
  intro p e s m args below meth c A H locs ls C hN hl hz hP hD hS
  have hK := C.2.2.2.2.2.2.2.1
  have hts := C.2.2.2.2.2.1
  have hK2 := (hK.2 (t - 6) _ (mTy_at (by omega) ht.2)).2
  have hxN : x.toNatClampNeg = N := by rw [hx]; exact nI_clamp (by omega)
  refine W.anew C.1 C.2.1 C.2.2.2.2.1 (hts _ (List.mem_cons_of_mem _ hcl)) (hts _ (List.mem_cons_of_mem _ har)) rfl hd rfl (by rw [hx]; exact nI_pos (by omega)) (by rw [hxN]; omega) hc (by rw [hxN]; exact hs) fun cA kA comp f1 f2 f3 f4 => ?_
  rw [hxN]
  generalize hH1 : H.push ({ cls := cA, slots := Array.replicate N .null, vm := .none } : Cell) = H1
  have z1 : H1.size = H.size + 1 := by rw [← hH1, Array.size_push]
  have e1 : H1[H.size]? = some (arrV cA N (fun _ => .null)) := by rw [← hH1, Array.getElem?_push_size, ← arrV_new]
  have o1 : ∀ q : Nat, q < H.size → H1[q]? = H[q]? := fun q hq => by rw [← hH1, Array.getElem?_push, if_neg (Nat.ne_of_lt hq)]
  rw [hz] at z1 e1 o1 ⊢
  have hcA : G.2.2.1 t = cA := by
    rw [hty] at hK2
    obtain ⟨kA2, comp2, -, -, -, g4⟩ := hK2
    exact Option.some.inj (g4.symm.trans f1)
  have hP1 : va_P G.2.1 mcl (mB G S pr n ++ [(G.2.2.2 n, cellQ G S pr n)]) H1 := hP.grow hz o1 (by
    rw [cellQ_r hk (by omega), hl1, hcA]
    show H1[G.2.2.2 n]? = some (arrV cA N (fun j => va_rf (if pr n j then some (G.2.2.2 (rf n j)) else none)))
    rw [e1]
    congr 2
    funext j
    rw [h1]
    rfl)
  have hD1 : va_D A (mB G S pr n ++ [(G.2.2.2 n, cellQ G S pr n)]) := hD.push hP hz.symm (C.2.2.2.2.2.2.2.2 _ (by rw [← hz]; exact hS.1))
  rw [mB_push] at hP1 hD1
  exact k _ _ _ _ _ _ _ _ _ _ _ _ C hN hl (z1.trans (hG n).symm) hP1 hD1 (hS.grow hz z1 o1)
theorem b_putR {i ci f a b : Nat} {Cn : FieldType} (hk : kd a = ci) (hf : FL M.1.cls i ci f) (hi : isI ci f = false) (hs : fT ci f = (fR ci, (fT ci f).2)) (hfin : (fT ci f).2.2.2 = true) (hown : fR ci = M.1.cls) (hty : fY ci f = Cn) (hn : narrow Cn (rv G b) = rv G b) (hfit : fits Cn (rv G b) = true) (hb : rf a f = b) (ha : a < n) (hd : decode M.2.1 pc = .ok (.putfield i, 3)) (k : Bt G d nc ns M S1 p1 n1 (pc + 3) lo st S (upP pr a f) n kc ks) : Bt G d nc ns M S1 p1 n1 pc lo (rv G b :: rv G a :: st) S pr n kc ks := by
  intro p e s m args below meth c A H locs ls C hN hl hz hP hD hS
  have hsz : va_P G.2.1 mcl (mB G S pr n) H := hP
  subst hb
  refine va_putF (D := G.2.1) (ci := ci) (C := fR ci) (T := fT ci) (N := fN ci) (ty := Cn) C.1 C.2.1 C.2.2.2.2.2.1 (fun w hw => List.mem_cons_of_mem _ (cls_in ci hf.1.1 w hw)) (fY ci) (cls_ty ci hf.1.1) (cls_nm ci hf.1.1) C.2.2.2.2.1 C.2.2.2.2.2.2.2.1 hP hD hS a (by rw [mB_at ha, cellQ_o hk hf.1.1]) (cls_at ci hf.1.1) f hf.1.2 (C.2.2.2.2.2.1 _ (List.mem_cons_of_mem _ hf.2)) (fun x hx => by rw [hs] at hx; exact hx) hfin hN (by rw [hs]; exact hown) (by rw [cls_ty ci hf.1.1 f hf.1.2, hty]) hn hfit (by rw [cFs_len]; exact hf.1.2) hd (fun H1 locs1 hP hD hS => ?_)
  sorry
end INITB
