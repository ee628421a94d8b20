/-! the law: a minute, in numbers -/
def howB (T : mT) (k : Nat) : Int32 := if knB T k = true then T.2.1 k else -1
def minB (T : mT) (k : Nat) : Int32 := if knB T k = true then T.2.2.1 k else -1
theorem pas_1 {N : mN} {b : Nat} (h : NI N b) (hb : b ≤ 900) : pasO N 1 = (ansM N (cnt N), addM (trM N (cnt N)) 1) := by
  obtain ⟨-, -, ⟨m, hm1, hm2⟩, -, -⟩ := h
  have h2 : ¬ 9999 < N.1 2 + 1 := by
    rw [hm2, nI_1]; exact nI_nlt (a := 9999) (by omega) (by omega)
  unfold pasO
  rw [if_neg (by decide), if_neg h2]
  show (ansM N (cnt N) + 0, _) = _
  rw [Int32.add_zero]
  rfl
theorem min_1 {T : mT} {p a : Int32} : (minT T p a).1 = nI (opK 3 (wlkT T p 16) a) ∧ (minT T p a).2.1 3 = T.1 3 + (minT T p a).1 := by
  obtain ⟨a1, a2, -⟩ := op_all 3 (wlkT T p 16) a
  refine ⟨a1, ?_⟩
  show (opnN 3 (wlkT T p 16) a).2.1 3 = T.1 3 + (opnN 3 (wlkT T p 16) a).1
  rw [a2, a1, wk_g (by decide)]
theorem ans_j {N : mN} : ∀ n, ∃ j, j ≤ 3 * n ∧ ansM N n = nI j ∧ (j = 0 → ∀ t, t < n → (minT (N.2 t) (N.1 0) (N.1 1)).2 = wlkT (N.2 t) (N.1 0) 16) := by
  intro n
  induction n with
  | zero => exact ⟨0, Nat.le_refl _, rfl, fun _ t ht => absurd ht (by omega)⟩
  | succ n ih =>
    obtain ⟨j, h1, h2, h3⟩ := ih
    have hle := opK_le 3 (wlkT (N.2 n) (N.1 0) 16) (N.1 1)
    refine ⟨j + opK 3 (wlkT (N.2 n) (N.1 0) 16) (N.1 1), by omega, ?_, fun hz t ht => ?_⟩
    · show ansM N n + (minT (N.2 n) (N.1 0) (N.1 1)).1 = _
      rw [h2, min_1.1, nI_add]
    · by_cases e : t = n
      · subst e
        have hk : opK 3 (wlkT (N.2 t) (N.1 0) 16) (N.1 1) = 0 := by omega
        by_cases hc : canO (wlkT (N.2 t) (N.1 0) 16) = true
        · rw [(op_t (n := 2) (a := N.1 1) hc).2] at hk; omega
        · show (opnN 3 (wlkT (N.2 t) (N.1 0) 16) (N.1 1)).2 = _
          rw [(op_f (n := 2) (a := N.1 1) hc).1]
      · exact h3 (by omega) t (by omega)
theorem sum_m {N : mN} : ∀ n, n ≤ cnt N → sumN (fun T => T.1 3) (addM (trM N (cnt N)) 1) n = sumN (fun T => T.1 3) N n + ansM N n := by
  intro n
  induction n with
  | zero => intro _; exact (Int32.add_zero _).symm
  | succ n ih =>
    intro hn
    show sumN (fun T => T.1 3) (addM (trM N (cnt N)) 1) n + ((if n < cnt N then (minT (N.2 n) (N.1 0) (N.1 1)).2 else N.2 n).1 3) = sumN (fun T => T.1 3) N n + (N.2 n).1 3 + (ansM N n + (minT (N.2 n) (N.1 0) (N.1 1)).1)
    rw [ih (by omega), if_pos (by omega), min_1.2]
    ac_rfl
theorem ni_pas {N : mN} {b : Nat} (h : NI N b) (hb : b ≤ 900) : NI (addM (trM N (cnt N)) 1) (b + 3) := by
  have hW2 := wn_pas h.1 1
  rw [pas_1 h hb] at hW2
  obtain ⟨hW, hk, ⟨m, hm1, hm2⟩, ha, h2⟩ := h
  refine ⟨hW2, fun t ht => ?_, ⟨m + 1, by omega, ?_⟩, ha, h2⟩
  · show TI (if t < cnt N then (minT (N.2 t) (N.1 0) (N.1 1)).2 else N.2 t) (b + 3)
    rw [if_pos (show t < cnt N from ht)]
    exact (op_ti 3 _ (N.1 1) b (by omega) (ti_wlk (hk t (show t < cnt N from ht))) ha).1
  · show upd N.1 2 (N.1 2 + 1) 2 = _
    rw [upd, if_pos rfl, hm2, nI_1]
theorem le1_3 {x : Int32} (h : 1 ≤ x) : (x - 1 ≤ 0 → x = 1) ∧ (¬ x - 1 ≤ 0 → ¬ x = 1) := by
  refine ⟨fun z => ?_, fun z e => z (by rw [e]; decide)⟩
  rw [Int32.le_iff_toInt_le] at h z
  have e1 : (1 : Int32).toInt = 1 := by decide
  have e0 : (0 : Int32).toInt = 0 := by decide
  have hu := Int32.toInt_lt x
  have hl := Int32.le_toInt x
  have es : (x - 1).toInt = x.toInt - 1 := by
    rw [Int32.toInt_sub, e1]
    exact Int.bmod_eq_of_le (by omega) (by omega)
  apply Int32.toInt_inj.mp
  rw [e1]
  omega
