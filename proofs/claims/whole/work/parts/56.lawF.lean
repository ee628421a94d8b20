/-! the law from its entry -/
def N00 : mN := (fun j => if j = 0 then 20 else if j = 1 then 30 else 0, fun _ => newT 1)
def Sf : mS := stS (sX4 (fun _ _ => 0)) 190
theorem inv0 : Inv Sf := by
  have hc : cnt N00 = 0 := by decide +kernel
  refine ⟨N00, 0, fun _ => N00, fun _ => false, fun _ => N00, 0, fun _ => 0, ⟨⟨0, by decide +kernel, by omega⟩, fun t ht => absurd ht (by omega)⟩, ⟨⟨⟨by decide +kernel, by decide +kernel, by decide +kernel, by decide +kernel, by decide +kernel⟩, fun t ht => absurd ht (by omega)⟩, ⟨0, ⟨by omega, by decide +kernel⟩, ⟨by omega, by decide +kernel⟩, fun i hi => absurd hi (by omega)⟩, fun j hj => ⟨?_, fun z => absurd (show false = true from z) (by decide)⟩, ⟨by decide +kernel, by omega⟩, fun j hj => absurd hj (by omega)⟩, ⟨?_, fun t ht => absurd ht (by omega)⟩, ⟨⟨by decide +kernel, by omega⟩, fun i hi => absurd hi (by omega)⟩, fun j hj => ⟨?_, fun z => absurd (show false = true from z) (by decide)⟩, ⟨⟨by decide +kernel, by omega⟩, fun j hj => absurd hj (by omega)⟩⟩
  · exact (by decide +kernel : ∀ j, j < 2 → Sf 184 j = bI false) j hj
  · exact (by decide +kernel : ∀ j, j < 5 → Sf 191 j = N00.1 j)
  · exact (by decide +kernel : ∀ j, j < 2 → Sf 196 j = bI false) j hj
section START2
variable {p : Program} {e : Env} {s : State} {m : MethodId} {below : List Frame} {meth : Method} {c : Code} {G : mG} {b L : Nat} {xs : Nat → Int32}
theorem start_G (C0 : lw_At p s m meth c b L xs) (hK : va_K G.2.1 mcl (mTy G) s) (hO : vAO s) (hG : adG G) (hL : L ≤ 2048) : LB p e s m below meth c G b 0 [(0, .ref b)] [] (fun _ _ => 0) (fun _ _ => false) 0 0 0 := by
  refine lb_new C0 hK hG n_L_7 rfl (fun _ => rfl) (fun _ => rfl) (Nat.le_of_ble_eq_true rfl) (Nat.le_of_ble_eq_true rfl) dL_law_0 ?_
  refine lb_dup C0 dL_law_3 rfl ?_
  refine lb_callI C0 hK hO co_X4_init l_L_9 (Nat.le_of_ble_eq_true rfl) (Nat.le_of_ble_eq_true rfl) (Nat.le_of_ble_eq_true rfl) dL_law_4 (i_X4 (d := 7) hG (fun _ _ => rfl) (fun _ _ _ => rfl)) (fun S2 p2 q2 => ?_) ⟨Nat.le_of_ble_eq_true rfl, Nat.le_of_ble_eq_true rfl⟩
  obtain ⟨rfl, a1, a2⟩ := q2
  have z : ∀ x, 190 ≤ x → ∀ k, sX4 (fun _ _ => 0) x k = 0 := fun x hx k => by rw [sX4_n (by omega)]
  refine lb_astore_n (lo2 := [(0, _), (1, _)]) C0 dL_law_7 rfl (Nat.le_of_ble_eq_true rfl) [1, 0] rfl ?_
  refine lb_new C0 hK hG n_L_10 rfl (z 190 (by omega)) (a2 190 (by omega)) (Nat.le_of_ble_eq_true rfl) (Nat.le_of_ble_eq_true rfl) dL_law_8 ?_
  refine lb_dup C0 dL_law_11 rfl ?_
  refine lb_callI C0 hK hO co_X5_init l_L_12 (Nat.le_of_ble_eq_true rfl) (Nat.le_of_ble_eq_true rfl) (Nat.le_of_ble_eq_true rfl) dL_law_12 (i_X5 (d := 10) hG z) (fun S3 p3 q3 => ?_) ⟨Nat.le_of_ble_eq_true rfl, Nat.le_of_ble_eq_true rfl⟩
  obtain ⟨rfl, b1, b2⟩ := q3
  refine lb_astore_n (lo2 := [(0, _), (1, _), (2, _)]) C0 dL_law_15 rfl (Nat.le_of_ble_eq_true rfl) [1, 2, 0] rfl ?_
  refine lb_iconst C0 dL_law_16 (v := 0) rfl ?_
  refine lb_istore_n (lo2 := [(0, _), (1, _), (2, _), (3, _)]) C0 dL_law_17 rfl (Nat.le_of_ble_eq_true rfl) [1, 2, 3, 0] rfl ?_
  intro H ls hl hz hP hD hS
  have hDn : Dn p3 0 199 := Dn.app (b := 190) (a1.frame (fun x c1 c2 => b1 x c2)) b2
  refine W.widen (k := 600000) (n := 7302250) (Nat.le_of_ble_eq_true rfl) (Nat.le_of_ble_eq_true rfl) ?_
  exact lp_law C0 hK hL (L + 4) 0 Sf (by omega) (by omega) inv0 H ls hl (mB_P hP hDn) (mB_D hD) hS
end START2
theorem whole_start {p : Program} {e : Env} {s : State} {m : MethodId} {below : List Frame} {meth : Method} {c : Code} (l : Launch) (hflags : l.flags = flags0) {b L : Nat} {xs : Nat → Int32} (hL : L ≤ 2048) (C0 : lw_At p s m meth c b L xs) : W p l e room_1 s m #[Value.ref b] below meth c s.heap [] 0 0 (lw_Z below #[Value.ref b] s) (entryFrame m ([Value.ref b] : List Value).toArray 4) := by
  have hts := C0.2.2.2.2.2.1
  have gm : ∀ w ∈ gtbl, w ∈ lw_tbl := fun w hw => (List.mem_filter.mp hw).1
  have kn : ∀ ci, ci < 6 → ∃ (cC : ClassId) (iS : Nat → Nat), u_Kn s (fR ci) (fT ci) (fN ci) cC iS := by
    intro ci h
    have hi : Cond.instantiable (fR ci) (fN ci) ∈ gtbl := by
      rcases (by omega : ci = 0 ∨ ci = 1 ∨ ci = 2 ∨ ci = 3 ∨ ci = 4 ∨ ci = 5) with rfl | rfl | rfl | rfl | rfl | rfl
      · exact n_X4_16.2.1
      · exact n_X4_31.2.1
      · exact n_X4_7.2.1
      · exact n_X4_38.2.1
      · exact n_L_7.2.1
      · exact n_L_10.2.1
    exact u_known hts (fun w hw => gm _ (cls_in ci h w hw)) (hts _ (gm _ hi))
  obtain ⟨c0, i0, k0⟩ := kn 0 (by omega)
  obtain ⟨c1, i1, k1⟩ := kn 1 (by omega)
  obtain ⟨c2, i2, k2⟩ := kn 2 (by omega)
  obtain ⟨c3, i3, k3⟩ := kn 3 (by omega)
  obtain ⟨c4, i4, k4⟩ := kn 4 (by omega)
  obtain ⟨c5, i5, k5⟩ := kn 5 (by omega)
  have hoS : (Cond.arrayOver (.object "ScoutGates$State")).before #[Value.ref b] s = true := hts _ (List.mem_of_getElem? (i := 156) (by decide +kernel))
  have hoT : (Cond.arrayOver (.object "ScoutGates$Troop")).before #[Value.ref b] s = true := hts _ (List.mem_of_getElem? (i := 69) (by decide +kernel))
  obtain ⟨t6, t6a⟩ := ty_num (hts _ (gm _ a_int)) (Or.inl rfl)
  obtain ⟨t7, t7a⟩ := ty_num (hts _ (gm _ a_char)) (Or.inr (Or.inl rfl))
  obtain ⟨t8, t8a⟩ := ty_num (hts _ (gm _ a_boolean)) (Or.inr (Or.inr rfl))
  obtain ⟨t9, t9a⟩ := ty_obj hoS
  obtain ⟨t10, t10a⟩ := ty_obj hoT
  obtain ⟨G, hG1, hG0, hG, hK⟩ : ∃ G : mG, G.1 = l ∧ G.2.2.2 0 = s.heap.size ∧ adG G ∧ va_K G.2.1 mcl (mTy G) s := by
    refine ⟨(l, (fun k => if k = 0 then c0 else if k = 1 then c1 else if k = 2 then c2 else if k = 3 then c3 else if k = 4 then c4 else c5, fun k => if k = 0 then i0 else if k = 1 then i1 else if k = 2 then i2 else if k = 3 then i3 else if k = 4 then i4 else i5), fun t => if t = 6 then t6 else if t = 7 then t7 else if t = 8 then t8 else if t = 9 then t9 else t10, fun a => s.heap.size + a), rfl, rfl, fun a => rfl, ?_, ?_⟩
    · intro k q hq
      have hk : k < 6 := (List.getElem?_eq_some_iff.mp hq).1
      obtain rfl : (fR k, fT k, fN k) = q := Option.some.inj ((cls_at k hk).symm.trans hq)
      rcases (by omega : k = 0 ∨ k = 1 ∨ k = 2 ∨ k = 3 ∨ k = 4 ∨ k = 5) with rfl | rfl | rfl | rfl | rfl | rfl
      · exact k0
      · exact k1
      · exact k2
      · exact k3
      · exact k4
      · exact k5
    · intro k q hq
      have hk : k < 5 := (List.getElem?_eq_some_iff.mp hq).1
      rcases (by omega : k = 0 ∨ k = 1 ∨ k = 2 ∨ k = 3 ∨ k = 4) with rfl | rfl | rfl | rfl | rfl
      · cases hq; exact t6a
      · cases hq; exact t7a
      · cases hq; exact t8a
      · cases hq; exact t9a
      · cases hq; exact t10a
  have hl := lv_entry ([.ref b]) (n := 4) (Nat.le_of_ble_eq_true rfl)
  rw [lg_entry_eq]
  generalize (lg_sl ([.ref b]) ++ List.replicate (4 - (lg_sl ([.ref b])).length) Slot.unset).toArray = ls at hl ⊢
  have hl : lv_has ls 4 [(0, .ref b)] := hl
  have st := @start_G p e s m below meth c G b L xs C0 hK ⟨va_AO.of hoS, va_AO.of hoT⟩ hG hL
  subst hG1
  exact st s.heap ls hl hG0.symm (fun k q h => by simp [mB] at h) ⟨fun i j p q h => by simp [mB] at h, fun k q h => by simp [mB] at h⟩ va_S.rf
