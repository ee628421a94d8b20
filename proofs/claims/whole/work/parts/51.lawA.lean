/-! the law: the world as it stands after the two constructors; calls from the law -/
theorem arrV_cg {cA : ClassId} {n : Nat} {f g : Nat → Value} (h : ∀ k, k < n → f k = g k) : arrV cA n f = arrV cA n g := by
  unfold arrV
  congr 2
  funext j
  exact h j.val j.isLt
theorem rel_o {a k ci : Nat} (h : kd a = ci) (hc : ci < 6) (hk : k < fN ci) (hi : isI ci k = false) : rel a k = true := by
  subst h
  unfold rel
  rw [if_pos hc, hi, Nat.ble_eq_true_of_le hk]
  rfl
theorem rel_r {a k t : Nat} (h : kd a = t) (hc : 9 ≤ t) (hk : k < ln a) : rel a k = true := by
  subst h
  unfold rel
  rw [if_neg (by omega), if_neg (by omega)]
  exact Nat.ble_eq_true_of_le hk
theorem mB_P {G : mG} {S : mS} {q : mP} {H : Heap} (h : va_P G.2.1 mcl (mB G S q 199) H) (hD : Dn q 0 199) : va_P G.2.1 mcl (mW G S) H := by
  intro k x hx
  have hk : k < 199 := by
    have := (List.getElem?_eq_some_iff.mp hx).1
    simpa [mW] using this
  rw [mW_at G S hk] at hx
  cases hx
  have h1 := h k _ (mB_at hk)
  by_cases h6 : kd k < 6
  · have e : cFs G S q k (kd k) = mFs G S k (kd k) := by
      refine List.ext_getElem? fun j => ?_
      by_cases hj : j < fN (kd k)
      · rw [cFs_at hj, mFs_at hj]
        cases hi : isI (kd k) j
        · rw [hD k (by omega) hk j (rel_o rfl h6 hj hi)]; rfl
        · rfl
      · rw [List.getElem?_eq_none (by rw [cFs_len]; omega), List.getElem?_eq_none (by rw [mFs_len]; omega)]
    rw [cellQ_o rfl h6, e] at h1
    rw [cellE_o rfl h6]
    exact h1
  · by_cases h9 : kd k < 9
    · rw [cellQ_i rfl h6 h9] at h1
      rw [cellE_i rfl h6 h9]
      exact h1
    · rw [cellQ_r rfl h9] at h1
      rw [cellE_r rfl h9]
      replace h1 : H[G.2.2.2 k]? = some (arrV (G.2.2.1 (kd k)) (ln k) (fun j => va_rf (if q k j then some (G.2.2.2 (rf k j)) else none))) := h1
      show H[G.2.2.2 k]? = some (arrV (G.2.2.1 (kd k)) (ln k) (fun j => va_rf (some (G.2.2.2 (rf k j)))))
      rw [h1]
      congr 1
      exact arrV_cg (fun j hj => by rw [hD k (by omega) hk j (rel_r rfl (by omega) hj)]; rfl)
theorem mB_D {G : mG} {S : mS} {q : mP} {A : Nat → Prop} (h : va_D A (mB G S q 199)) : va_D A (mW G S) := by
  have key : ∀ (k : Nat) (x : Nat × va_E), (mW G S)[k]? = some x → (mB G S q 199)[k]? = some (G.2.2.2 k, cellQ G S q k) ∧ x.1 = G.2.2.2 k := by
    intro k x hx
    have hk : k < 199 := by
      have := (List.getElem?_eq_some_iff.mp hx).1
      simpa [mW] using this
    rw [mW_at G S hk] at hx
    cases hx
    exact ⟨mB_at hk, rfl⟩
  refine ⟨fun i j p r hi hj e => ?_, fun k x hx => ?_⟩
  · obtain ⟨a1, a2⟩ := key i p hi
    obtain ⟨b1, b2⟩ := key j r hj
    exact h.1 i j _ _ a1 b1 (by rw [← a2, ← b2]; exact e)
  · obtain ⟨a1, a2⟩ := key k x hx
    rw [a2]; exact h.2 k _ a1
def LW (p : Program) (e : Env) (s : State) (m : MethodId) (below : List Frame) (meth : Method) (c : Code) (G : mG) (b : Nat) (pc : Nat) (lo : List (Nat × Value)) (st : List Value) (S : mS) : Prop :=
  ∀ (H : Heap) (ls : Array Slot), lv_has ls 4 lo → va_P G.2.1 mcl (mW G S) H → va_D (fun q => s.heap.size ≤ q) (mW G S) → va_S (fun q => s.heap.size ≤ q) s.heap H [] →
    W p G.1 e room_1 s m #[Value.ref b] below meth c H [] 600000 7302250 (lw_Z below #[Value.ref b] s) (F0 m pc ls st)
section LAW
variable {p : Program} {e : Env} {s : State} {m : MethodId} {below : List Frame} {meth : Method} {c : Code} {G : mG} {b L : Nat} {xs : Nat → Int32} {pc : Nat} {lo : List (Nat × Value)} {st : List Value} {S : mS}
theorem l_callV {M' : mM} {As rest : List Value} {Qc : Option Int32 → mS → Prop} {ci a n i : Nat} (C0 : lw_At p s m meth c b L xs) (hK : va_K G.2.1 mcl (mTy G) s) (hc : CV M' ci n) (hk : kd a = ci) (hl1 : ML RL i M') {ty : FieldType} (hr : M'.2.2.2 = some ty) (hst : st = As.reverse ++ rv G a :: rest) (hn : As.length = n) (hW : (rest.map fun v => v.category).sum ≤ 8) (hd : decode cL_law pc = .ok (.invokevirtual i, 3)) (hcall : Call G 11 M' (rv G a :: As) S Qc) (k : ∀ r u, Qc (some r) u → LW p e s m below meth c G b (pc + 3) lo (.int r :: rest) u) : LW p e s m below meth c G b pc lo st S := by
  intro H ls hl hP hD hS
  subst hst
  have hM := hcall H.size
  have hF := freeC (G := G) hD hS (fun _ h => h)
  have e0 : mPost G M' Qc (va_A (mW G S) H.size) = va_Qi (fun r u => Qc (some r) u) (mBh G (va_A (mW G S) H.size)) (va_A (mW G S) H.size) := by unfold mPost; rw [hr]
  rw [e0] at hM
  have hbl := blindC (G := G) (av := rv G a :: As) (S' := S) (sz := H.size)
  refine va_calli (A1 := va_A (mW G S) H.size) (va_runV (R := room_1) (As := As) (rest := rest) (own := R_law) (Ts := lw_tbl) ⟨C0.1, C0.2.1, C0.2.2.2.1, C0.2.2.2.2.1, C0.2.2.2.2.2.1⟩ hM (cwV n C0.2.2.2.2.2.1 (gi_V (fun w hw => (List.mem_filter.mp hw).1) hc hl1) rfl rfl rfl ⟨rfl, hc.1.2⟩ ⟨Nat.le_of_ble_eq_true rfl, by have := hc.1.1.2.2; show 8 + (M'.2.2.1 + 11) + 330 ≤ 452; omega⟩) ⟨hbl, by rw [hc.2.1.2]; exact va_recv (D := G.2.1) hK hP (cls_at ci hc.2.1.1) (hasO hk hc.2.1.1), fun U hU hW => ⟨rfl, by rw [hU], by rw [hU]; exact hP, va_K.moved hW.alike hK, hD.weaken (fun _ _ _ _ => trivial)⟩⟩ rfl hn hl.1 rfl (lv_room hW) hd ⟨Nat.le_of_ble_eq_true rfl, Nat.le_of_ble_eq_true rfl⟩) hS (fun q _ h => hF q h) hF (fun r u t H1 locs1 ht hvm hw hB hz1 hk1 hS1 => ?_)
  obtain ⟨hP1, hK1, hD1⟩ := hB
  rw [ht] at hP1
  refine va_forget (fun q hq => hS1.2.2 q hq) ?_
  exact k r u hw _ _ hl hP1 (apartC hD hD1) ⟨hS1.1, hS1.2.1, fun _ h => absurd h List.not_mem_nil⟩
end LAW
