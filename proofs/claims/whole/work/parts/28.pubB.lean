/-! the class's public methods: set, undo, slots, the pad -/
def SL (S : mS) (sv : Nat → Bool) (sl : Nat → mN) : Prop := ∀ j, j < 2 → S 184 j = bI (sv j) ∧ (sv j = true → WN (sl j) ∧ SP S (148 + 18 * j) (sl j))
theorem SL.off {S u : mS} {sv : Nat → Bool} {sl : Nat → mN} (h : SL S sv sl) (g : ∀ c, 148 ≤ c → c < 185 → u c = S c) : SL u sv sl := fun j hj =>
  ⟨by rw [g 184 (by omega) (by omega)]; exact (h j hj).1, fun z => ⟨((h j hj).2 z).1, ((h j hj).2 z).2.off ((h j hj).2 z).1.cn.2 (fun c c1 c2 => g c (by omega) (by omega))⟩⟩
def savA (N : mN) (s : Int32) : Int32 := if s < 0 ∨ 1 < s then -2 else N.1 3
def svB (s : Int32) (sv : Nat → Bool) : Nat → Bool := if s < 0 ∨ 1 < s then sv else fun j => if j = s.toNatClampNeg then true else sv j
def svL (s : Int32) (N : mN) (sl : Nat → mN) : Nat → mN := if s < 0 ∨ 1 < s then sl else fun j => if j = s.toNatClampNeg then N else sl j
def resO (N : mN) (sv : Nat → Bool) (sl : Nat → mN) (s : Int32) : Int32 × mN := if s < 0 ∨ 1 < s then (-2, N) else if sv s.toNatClampNeg = true then ((sl s.toNatClampNeg).1 3, sl s.toNatClampNeg) else (-5, N)
def undA (n : Nat) : Int32 := if n = 0 then -5 else nI (n - 1)
def undN (n : Nat) (h : Nat → mN) (N : mN) : mN := if n = 0 then N else h (n - 1)
theorem le1_of {s : Int32} (h : s < 2) : s ≤ 1 := by
  rw [Int32.lt_iff_toInt_lt] at h
  rw [Int32.le_iff_toInt_le]
  have e1 : (1 : Int32).toInt = 1 := by decide
  have e2 : (2 : Int32).toInt = 2 := by decide
  omega
theorem sl_cases (s : Int32) : (s < 0 ∨ 1 < s) ∨ ∃ j, j < 2 ∧ s = nI j ∧ s.toNatClampNeg = j ∧ ¬ (s < 0 ∨ 1 < s) := by
  by_cases h : s < 0 ∨ 1 < s
  · exact Or.inl h
  · right
    have a1 : ¬ s < 0 := fun z => h (Or.inl z)
    have a2 : ¬ 1 < s := fun z => h (Or.inr z)
    obtain ⟨j, hj, rfl⟩ := nI_of a1
    rw [show (1 : Int32) = nI 1 from rfl, nI_ltI (by omega) hj] at a2
    exact ⟨j, by omega, rfl, nI_clamp hj, h⟩
section PUB
variable {G : mG} {d : Nat} {S : mS} {N : mN} {n : Nat} {h : Nat → mN} {t k c s v x : Int32} {sv : Nat → Bool} {sl : Nat → mN} {P : Nat → Int32} {len : Nat}
theorem kd148 {j : Nat} (hj : j < 2) : kd (148 + 18 * j) = 2 := (by decide +kernel : ∀ j, j < 2 → kd (148 + 18 * j) = 2) j hj
theorem SP.stn {S : mS} {N : mN} (hS : SP S 1 N) {i : Nat} (hi : i < 2) {y : Int32} : SP (up1 S 2 (upd (S 2) i y)) 1 (upd N.1 i y, N.2) := by
  refine ⟨?_, fun t ht => ?_⟩
  · rw [up1_s, up1_n (show 1 ≠ 2 by omega)]
    refine ⟨?_, ?_, hS.1.2.2.1.trans ?_, hS.1.2.2.2.1.trans ?_, hS.1.2.2.2.2.trans ?_⟩
    · show upd (S 2) i y 0 = upd N.1 i y 0
      have e := hS.1.1
      simp only [upd]; split
      · rfl
      · exact e
    · show upd (S 2) i y 1 = upd N.1 i y 1
      have e := hS.1.2.1
      simp only [upd]; split
      · rfl
      · exact e
    · simp only [upd]; rw [if_neg (by omega)]
    · simp only [upd]; rw [if_neg (by omega)]
    · simp only [upd]; rw [if_neg (by omega)]
  · have e : cnt (upd N.1 i y, N.2) = cnt N := cnt_g (by simp only [upd]; rw [if_neg (by omega)])
    rw [e] at ht
    exact (hS.2 t ht).off (fun x hx => up1_n (by omega))
theorem t_X4_set (hW : WN N) (hS : SP S 1 N) (hH : HP S n h) : Call G (d + 7) M_X4_set [rv G 0, .int s, .int v] S (fun r u => r = some (setO N s v).1 ∧ SP u 1 (setO N s v).2 ∧ HP u (rcN (setO N s v).1 n) (rcH (setO N s v).1 n h N) ∧ FC S u) := by
  refine call_of (lo := [(0, rv G 0), (1, .int s), (2, .int v)]) (by decide +kernel) (Nat.le_of_ble_eq_true rfl) rfl ?_
  unfold setO
  by_cases hc : (s = 0 ∧ 0 ≤ v ∧ v ≤ 99) ∨ (s = 1 ∧ 1 ≤ v ∧ v ≤ 99)
  · rw [if_pos hc]
    obtain ⟨i, hi, rfl, ei⟩ : ∃ i, i < 2 ∧ s = nI i ∧ s.toNatClampNeg = i := by
      rcases hc with ⟨rfl, -⟩ | ⟨rfl, -⟩
      · exact ⟨0, by omega, rfl, rfl⟩
      · exact ⟨1, by omega, rfl, rfl⟩
    have hl : i < ln 2 := hi
    have hs0 : ¬ nI i < 0 := nI_pos (by omega)
    have hs2 : nI i < 2 := nI_lt (b := 2) hi (by decide)
    rw [ei]
    have hv99 : v ≤ 99 := by rcases hc with ⟨-, -, z⟩ | ⟨-, -, z⟩ <;> exact z
    have hW2 : WN (upd N.1 i v, N.2) := hW.glob (by simp only [upd]; rw [if_neg (by omega)])
    have hlow : (nI i = 1 → 1 ≤ v) ∧ (¬ nI i = 1 → 0 ≤ v) := by
      rcases hc with ⟨z, y, -⟩ | ⟨z, y, -⟩
      · rw [z]; exact ⟨fun y => absurd y (by decide), fun _ => y⟩
      · exact ⟨fun _ => y, fun y => absurd z y⟩
    refine r_iload_n dX4_set_0 1 rfl ?_
    refine r_if_lt dX4_set_1 (tgt := 9) (by decide) (fun h1 => ?_) (fun h1 => ?_)
    · --t
      exact absurd h1 hs0
    · --f
      refine r_iload_n dX4_set_4 1 rfl ?_
      refine r_iconst dX4_set_5 (v := 2) rfl ?_
      refine r_icmp_lt dX4_set_6 (tgt := 12) (by decide) (fun h6 => ?_) (fun h6 => ?_)
      · --t
        refine r_iload_n dX4_set_12 1 rfl ?_
        refine r_iconst dX4_set_13 (v := 1) rfl ?_
        refine r_icmp_ne dX4_set_14 (tgt := 21) (by decide) (fun h14 => ?_) (fun h14 => ?_)
        · --t
          refine r_iconst dX4_set_21 (v := 0) rfl ?_
          refine r_istore_n (lo2 := [(0, _), (1, _), (2, _), (3, _)]) dX4_set_22 rfl (Nat.le_of_ble_eq_true rfl) [1, 2, 3, 0] rfl ?_
          refine r_iload_n dX4_set_23 2 rfl ?_
          refine r_iload_n dX4_set_24 3 rfl ?_
          refine r_icmp_lt dX4_set_25 (tgt := 34) (by decide) (fun h25 => ?_) (fun h25 => ?_)
          · --t
            exact (by first | exact absurd (hlow.1 h14) (Int32.not_le.mpr h25) | exact absurd (hlow.2 h14) (Int32.not_le.mpr h25))
          · --f
            refine r_iload_n dX4_set_28 2 rfl ?_
            refine r_bipush dX4_set_29 (v := 99) (by decide +kernel) ?_
            refine r_icmp_le dX4_set_31 (tgt := 37) (by decide) (fun h31 => ?_) (fun h31 => ?_)
            · --t
              refine r_aload_n dX4_set_37 0 rfl ?_
              refine r_getR (b := 19) (by first | assumption | rfl) f_X4_19 rfl rfl dX4_set_38 rfl ?_
              refine r_aload_n dX4_set_41 0 rfl ?_
              refine r_getR (b := 1) (by first | assumption | rfl) f_X4_10 rfl rfl dX4_set_42 rfl ?_
              refine r_callVv (As := [_]) c_X0_note (by first | assumption | rfl) l_X4_45 rfl rfl rfl (Nat.le_of_ble_eq_true rfl) dX4_set_45 (t_X0_note hH hW hS) (fun u45 q45 => ?_)
              obtain ⟨-, g1, f1⟩ := q45
              have hS1 := hS.fh hW.cn.2 f1
              refine r_aload_n dX4_set_48 0 rfl ?_
              refine r_getR (b := 1) (by first | assumption | rfl) f_X4_10 rfl rfl dX4_set_49 rfl ?_
              refine r_getR (b := 2) (by first | assumption | rfl) f_X4_49 rfl rfl dX4_set_52 rfl ?_
              refine r_iload_n dX4_set_55 1 rfl ?_
              refine r_iald (j := i) (by first | assumption | rfl) (by first | assumption | rfl) (by first | assumption | decide) dX4_set_56 ?_
              refine r_istore (lo2 := [(0, _), (1, _), (2, _), (3, _), (4, _)]) dX4_set_57 (Nat.le_of_ble_eq_true rfl) [1, 2, 3, 4, 0] rfl ?_
              refine r_aload_n dX4_set_59 0 rfl ?_
              refine r_getR (b := 1) (by first | assumption | rfl) f_X4_10 rfl rfl dX4_set_60 rfl ?_
              refine r_getR (b := 2) (by first | assumption | rfl) f_X4_49 rfl rfl dX4_set_63 rfl ?_
              refine r_iload_n dX4_set_66 1 rfl ?_
              refine r_iload_n dX4_set_67 2 rfl ?_
              refine r_iast (j := i) (by first | assumption | rfl) (by first | assumption | rfl) (by first | assumption | decide) dX4_set_68 ?_
              refine r_aload_n dX4_set_69 0 rfl ?_
              refine r_iload dX4_set_70 4 rfl ?_
              refine r_callVi (As := [_]) c_X4_recorded (by first | assumption | rfl) l_X4_53 rfl rfl rfl (Nat.le_of_ble_eq_true rfl) dX4_set_72 (t_X4_recorded (N := N) (g1.off (fun c c1 c2 => up1_n (by omega)))) (fun r72 u72 q72 => ?_)
              obtain ⟨e3, g3, f3⟩ := q72
              cases e3
              refine r_iret rfl dX4_set_75 ?_
              have e1 : u45 2 i = N.1 i := by
                have z0 : u45 2 0 = N.1 0 := hS1.1.1
                have z1 : u45 2 1 = N.1 1 := hS1.1.2.1
                rcases (by omega : i = 0 ∨ i = 1) with rfl | rfl
                · exact z0
                · exact z1
              rw [e1] at g3 ⊢
              exact ⟨rfl, (hS1.stn hi).fh hW2.cn.2 f3, g3, fun b hb => (f3 b (by omega)).trans ((up1_n (by omega)).trans (f1 b (by omega)))⟩
            · --f
              exact absurd hv99 h31
        · --f
          refine r_iconst dX4_set_17 (v := 1) rfl ?_
          refine r_goto dX4_set_18 (tgt := 22) (by decide) ?_
          refine r_istore_n (lo2 := [(0, _), (1, _), (2, _), (3, _)]) dX4_set_22 rfl (Nat.le_of_ble_eq_true rfl) [1, 2, 3, 0] rfl ?_
          refine r_iload_n dX4_set_23 2 rfl ?_
          refine r_iload_n dX4_set_24 3 rfl ?_
          refine r_icmp_lt dX4_set_25 (tgt := 34) (by decide) (fun h25 => ?_) (fun h25 => ?_)
          · --t
            exact (by first | exact absurd (hlow.1 h14) (Int32.not_le.mpr h25) | exact absurd (hlow.2 h14) (Int32.not_le.mpr h25))
          · --f
            refine r_iload_n dX4_set_28 2 rfl ?_
            refine r_bipush dX4_set_29 (v := 99) (by decide +kernel) ?_
            refine r_icmp_le dX4_set_31 (tgt := 37) (by decide) (fun h31 => ?_) (fun h31 => ?_)
            · --t
              refine r_aload_n dX4_set_37 0 rfl ?_
              refine r_getR (b := 19) (by first | assumption | rfl) f_X4_19 rfl rfl dX4_set_38 rfl ?_
              refine r_aload_n dX4_set_41 0 rfl ?_
              refine r_getR (b := 1) (by first | assumption | rfl) f_X4_10 rfl rfl dX4_set_42 rfl ?_
              refine r_callVv (As := [_]) c_X0_note (by first | assumption | rfl) l_X4_45 rfl rfl rfl (Nat.le_of_ble_eq_true rfl) dX4_set_45 (t_X0_note hH hW hS) (fun u45 q45 => ?_)
              obtain ⟨-, g1, f1⟩ := q45
              have hS1 := hS.fh hW.cn.2 f1
              refine r_aload_n dX4_set_48 0 rfl ?_
              refine r_getR (b := 1) (by first | assumption | rfl) f_X4_10 rfl rfl dX4_set_49 rfl ?_
              refine r_getR (b := 2) (by first | assumption | rfl) f_X4_49 rfl rfl dX4_set_52 rfl ?_
              refine r_iload_n dX4_set_55 1 rfl ?_
              refine r_iald (j := i) (by first | assumption | rfl) (by first | assumption | rfl) (by first | assumption | decide) dX4_set_56 ?_
              refine r_istore (lo2 := [(0, _), (1, _), (2, _), (3, _), (4, _)]) dX4_set_57 (Nat.le_of_ble_eq_true rfl) [1, 2, 3, 4, 0] rfl ?_
              refine r_aload_n dX4_set_59 0 rfl ?_
              refine r_getR (b := 1) (by first | assumption | rfl) f_X4_10 rfl rfl dX4_set_60 rfl ?_
              refine r_getR (b := 2) (by first | assumption | rfl) f_X4_49 rfl rfl dX4_set_63 rfl ?_
              refine r_iload_n dX4_set_66 1 rfl ?_
              refine r_iload_n dX4_set_67 2 rfl ?_
              refine r_iast (j := i) (by first | assumption | rfl) (by first | assumption | rfl) (by first | assumption | decide) dX4_set_68 ?_
              refine r_aload_n dX4_set_69 0 rfl ?_
              refine r_iload dX4_set_70 4 rfl ?_
              refine r_callVi (As := [_]) c_X4_recorded (by first | assumption | rfl) l_X4_53 rfl rfl rfl (Nat.le_of_ble_eq_true rfl) dX4_set_72 (t_X4_recorded (N := N) (g1.off (fun c c1 c2 => up1_n (by omega)))) (fun r72 u72 q72 => ?_)
              obtain ⟨e3, g3, f3⟩ := q72
              cases e3
              refine r_iret rfl dX4_set_75 ?_
              have e1 : u45 2 i = N.1 i := by
                have z0 : u45 2 0 = N.1 0 := hS1.1.1
                have z1 : u45 2 1 = N.1 1 := hS1.1.2.1
                rcases (by omega : i = 0 ∨ i = 1) with rfl | rfl
                · exact z0
                · exact z1
              rw [e1] at g3 ⊢
              exact ⟨rfl, (hS1.stn hi).fh hW2.cn.2 f3, g3, fun b hb => (f3 b (by omega)).trans ((up1_n (by omega)).trans (f1 b (by omega)))⟩
            · --f
              exact absurd hv99 h31
      · --f
        exact absurd hs2 h6
  · rw [if_neg hc]
    have big : s < 0 ∨ ¬ s < 2 ∨ (s = 1 ∧ (v < 1 ∨ ¬ v ≤ 99)) ∨ (¬ s = 1 ∧ (v < 0 ∨ ¬ v ≤ 99)) := by
      by_cases a1 : s < 0
      · exact Or.inl a1
      · by_cases a2 : s < 2
        · right; right
          by_cases a3 : s = 1
          · left
            refine ⟨a3, ?_⟩
            by_cases a4 : v < 1
            · exact Or.inl a4
            · exact Or.inr (fun z => hc (Or.inr ⟨a3, Int32.not_lt.mp a4, z⟩))
          · right
            refine ⟨a3, ?_⟩
            have a0 : s = 0 := by
              obtain ⟨j, hj, rfl⟩ := nI_of a1
              rw [show (2 : Int32) = nI 2 from rfl, nI_ltI hj (by omega)] at a2
              rw [show (1 : Int32) = nI 1 from rfl, nI_eq hj (by omega)] at a3
              rw [show j = 0 by omega]; rfl
            by_cases a4 : v < 0
            · exact Or.inl a4
            · exact Or.inr (fun z => hc (Or.inl ⟨a0, Int32.not_lt.mp a4, z⟩))
        · exact Or.inr (Or.inl a2)
    refine r_iload_n dX4_set_0 1 rfl ?_
    refine r_if_lt dX4_set_1 (tgt := 9) (by decide) (fun h1 => ?_) (fun h1 => ?_)
    · --t
      refine r_bipush dX4_set_9 (v := -2) (by decide +kernel) ?_
      refine r_iret rfl dX4_set_11 ?_
      exact ⟨rfl, hS, hH, fun _ _ => rfl⟩
    · --f
      refine r_iload_n dX4_set_4 1 rfl ?_
      refine r_iconst dX4_set_5 (v := 2) rfl ?_
      refine r_icmp_lt dX4_set_6 (tgt := 12) (by decide) (fun h6 => ?_) (fun h6 => ?_)
      · --t
        refine r_iload_n dX4_set_12 1 rfl ?_
        refine r_iconst dX4_set_13 (v := 1) rfl ?_
        refine r_icmp_ne dX4_set_14 (tgt := 21) (by decide) (fun h14 => ?_) (fun h14 => ?_)
        · --t
          refine r_iconst dX4_set_21 (v := 0) rfl ?_
          refine r_istore_n (lo2 := [(0, _), (1, _), (2, _), (3, _)]) dX4_set_22 rfl (Nat.le_of_ble_eq_true rfl) [1, 2, 3, 0] rfl ?_
          refine r_iload_n dX4_set_23 2 rfl ?_
          refine r_iload_n dX4_set_24 3 rfl ?_
          refine r_icmp_lt dX4_set_25 (tgt := 34) (by decide) (fun h25 => ?_) (fun h25 => ?_)
          · --t
            refine r_bipush dX4_set_34 (v := -2) (by decide +kernel) ?_
            refine r_iret rfl dX4_set_36 ?_
            exact ⟨rfl, hS, hH, fun _ _ => rfl⟩
          · --f
            refine r_iload_n dX4_set_28 2 rfl ?_
            refine r_bipush dX4_set_29 (v := 99) (by decide +kernel) ?_
            refine r_icmp_le dX4_set_31 (tgt := 37) (by decide) (fun h31 => ?_) (fun h31 => ?_)
            · --t
              rcases big with z | z | ⟨z, y⟩ | ⟨z, y⟩
              · exact absurd z h1
              · exact absurd h6 z
              · first | exact absurd z h14 | exact (y.elim h25 (fun w => w h31)).elim
              · first | exact absurd h14 z | exact (y.elim h25 (fun w => w h31)).elim
            · --f
              refine r_bipush dX4_set_34 (v := -2) (by decide +kernel) ?_
              refine r_iret rfl dX4_set_36 ?_
              exact ⟨rfl, hS, hH, fun _ _ => rfl⟩
        · --f
          refine r_iconst dX4_set_17 (v := 1) rfl ?_
          refine r_goto dX4_set_18 (tgt := 22) (by decide) ?_
          refine r_istore_n (lo2 := [(0, _), (1, _), (2, _), (3, _)]) dX4_set_22 rfl (Nat.le_of_ble_eq_true rfl) [1, 2, 3, 0] rfl ?_
          refine r_iload_n dX4_set_23 2 rfl ?_
          refine r_iload_n dX4_set_24 3 rfl ?_
          refine r_icmp_lt dX4_set_25 (tgt := 34) (by decide) (fun h25 => ?_) (fun h25 => ?_)
          · --t
            refine r_bipush dX4_set_34 (v := -2) (by decide +kernel) ?_
            refine r_iret rfl dX4_set_36 ?_
            exact ⟨rfl, hS, hH, fun _ _ => rfl⟩
          · --f
            refine r_iload_n dX4_set_28 2 rfl ?_
            refine r_bipush dX4_set_29 (v := 99) (by decide +kernel) ?_
            refine r_icmp_le dX4_set_31 (tgt := 37) (by decide) (fun h31 => ?_) (fun h31 => ?_)
            · --t
              rcases big with z | z | ⟨z, y⟩ | ⟨z, y⟩
              · exact absurd z h1
              · exact absurd h6 z
              · first | exact absurd z h14 | exact (y.elim h25 (fun w => w h31)).elim
              · first | exact absurd h14 z | exact (y.elim h25 (fun w => w h31)).elim
            · --f
              refine r_bipush dX4_set_34 (v := -2) (by decide +kernel) ?_
              refine r_iret rfl dX4_set_36 ?_
              exact ⟨rfl, hS, hH, fun _ _ => rfl⟩
      · --f
        refine r_bipush dX4_set_9 (v := -2) (by decide +kernel) ?_
        refine r_iret rfl dX4_set_11 ?_
        exact ⟨rfl, hS, hH, fun _ _ => rfl⟩
theorem t_X4_undo (hW : WN N) (hS : SP S 1 N) (hH : HP S n h) : Call G (d + 7) M_X4_undo [rv G 0] S (fun r u => r = some (undA n) ∧ SP u 1 (undN n h N) ∧ WN (undN n h N) ∧ HP u (n - 1) h ∧ FC S u) := by
  refine call_of (lo := [(0, rv G 0)]) (by decide +kernel) (Nat.le_of_ble_eq_true rfl) rfl ?_
  have en : S 19 2 = nI n := by obtain ⟨o, -, ⟨-, z⟩, -⟩ := hH; exact z
  have hn6 : n ≤ 6 := by obtain ⟨o, -, ⟨z, -⟩, -⟩ := hH; exact z
  unfold undA undN
  by_cases hn : n = 0
  · subst hn
    rw [if_pos rfl, if_pos rfl]
    refine r_aload_n dX4_undo_0 0 rfl ?_
    refine r_getR (b := 19) (by first | assumption | rfl) f_X4_19 rfl rfl dX4_undo_1 rfl ?_
    refine r_getI (by first | assumption | rfl) f_X4_180 rfl rfl dX4_undo_4 ?_
    refine r_if_ne dX4_undo_7 (tgt := 13) (by decide) (fun h7 => ?_) (fun h7 => ?_)
    · --t
      exact absurd en h7
    · --f
      refine r_bipush dX4_undo_10 (v := -5) (by decide +kernel) ?_
      refine r_iret rfl dX4_undo_12 ?_
      exact ⟨rfl, hS, hW, hH, fun _ _ => rfl⟩
  · rw [if_neg hn, if_neg hn]
    refine r_aload_n dX4_undo_0 0 rfl ?_
    refine r_getR (b := 19) (by first | assumption | rfl) f_X4_19 rfl rfl dX4_undo_1 rfl ?_
    refine r_getI (by first | assumption | rfl) f_X4_180 rfl rfl dX4_undo_4 ?_
    refine r_if_ne dX4_undo_7 (tgt := 13) (by decide) (fun h7 => ?_) (fun h7 => ?_)
    · --t
      refine r_aload_n dX4_undo_13 0 rfl ?_
      refine r_getR (b := 19) (by first | assumption | rfl) f_X4_19 rfl rfl dX4_undo_14 rfl ?_
      refine r_aload_n dX4_undo_17 0 rfl ?_
      refine r_getR (b := 1) (by first | assumption | rfl) f_X4_10 rfl rfl dX4_undo_18 rfl ?_
      refine r_callVv (As := [_]) c_X0_takeBackInto (by first | assumption | rfl) l_X4_229 rfl rfl rfl (Nat.le_of_ble_eq_true rfl) dX4_undo_21 (t_X0_takeBackInto hH (by omega)) (fun u21 q21 => ?_)
      obtain ⟨-, g1, w1, g2, f1⟩ := q21
      refine r_aload_n dX4_undo_24 0 rfl ?_
      refine r_getR (b := 19) (by first | assumption | rfl) f_X4_19 rfl rfl dX4_undo_25 rfl ?_
      refine r_getI (by first | assumption | rfl) f_X4_180 rfl rfl dX4_undo_28 ?_
      refine r_iret rfl dX4_undo_31 ?_
      have e2 : u21 19 2 = nI (n - 1) := by obtain ⟨o, -, ⟨-, z⟩, -⟩ := g1; exact z
      rw [e2]
      exact ⟨rfl, g2, w1, g1, f1⟩
    · --f
      exact absurd (by rw [en] at h7; exact h7) (nI_ne0 (by omega) (by omega))
theorem t_X4_save (hW : WN N) (hS : SP S 1 N) (hL : SL S sv sl) : Call G (d + 6) M_X4_save [rv G 0, .int s] S (fun r u => r = some (savA N s) ∧ SL u (svB s sv) (svL s N sl) ∧ ∀ c, (c < 148 ∨ 185 ≤ c) → u c = S c) := by
  refine call_of (lo := [(0, rv G 0), (1, .int s)]) (by decide +kernel) (Nat.le_of_ble_eq_true rfl) rfl ?_
  unfold savA svB svL
  rcases sl_cases s with g | ⟨j, hj, rfl, ej, g⟩
  · rw [if_pos g, if_pos g, if_pos g]
    refine r_iload_n dX4_save_0 1 rfl ?_
    refine r_if_lt dX4_save_1 (tgt := 9) (by decide) (fun h1 => ?_) (fun h1 => ?_)
    · --t
      refine r_bipush dX4_save_9 (v := -2) (by decide +kernel) ?_
      refine r_iret rfl dX4_save_11 ?_
      exact ⟨rfl, hL, fun _ _ => rfl⟩
    · --f
      refine r_iload_n dX4_save_4 1 rfl ?_
      refine r_iconst dX4_save_5 (v := 2) rfl ?_
      refine r_icmp_lt dX4_save_6 (tgt := 12) (by decide) (fun h6 => ?_) (fun h6 => ?_)
      · --t
        exact (g.elim h1 (fun z => absurd z (by first | exact Int32.not_lt.mpr (le1_of h6)))).elim
      · --f
        refine r_bipush dX4_save_9 (v := -2) (by decide +kernel) ?_
        refine r_iret rfl dX4_save_11 ?_
        exact ⟨rfl, hL, fun _ _ => rfl⟩
  · rw [if_neg g, if_neg g, if_neg g, ej]
    have hs2 : nI j < 2 := nI_lt (b := 2) hj (by decide)
    have hl : j < ln 147 := hj
    have hl2 : j < ln 184 := hj
    have hk := kd148 hj
    have h1' : kd 1 = 2 := rfl
    refine r_iload_n dX4_save_0 1 rfl ?_
    refine r_if_lt dX4_save_1 (tgt := 9) (by decide) (fun h1 => ?_) (fun h1 => ?_)
    · --t
      exact absurd (Or.inl h1) g
    · --f
      refine r_iload_n dX4_save_4 1 rfl ?_
      refine r_iconst dX4_save_5 (v := 2) rfl ?_
      refine r_icmp_lt dX4_save_6 (tgt := 12) (by decide) (fun h6 => ?_) (fun h6 => ?_)
      · --t
        refine r_aload_n dX4_save_12 0 rfl ?_
        refine r_getR (b := 147) (by first | assumption | rfl) f_X4_23 rfl rfl dX4_save_13 rfl ?_
        refine r_iload_n dX4_save_16 1 rfl ?_
        refine r_aald9 (j := _) (by first | assumption | rfl) (by first | assumption | rfl) (by first | assumption | decide) (show rf 147 j = 148 + 18 * j from rfl) dX4_save_17 ?_
        refine r_aload_n dX4_save_18 0 rfl ?_
        refine r_getR (b := 1) (by first | assumption | rfl) f_X4_10 rfl rfl dX4_save_19 rfl ?_
        refine r_callVv (As := [_]) c_X2_copyFrom (by first | assumption | rfl) l_X4_232 rfl rfl rfl (Nat.le_of_ble_eq_true rfl) dX4_save_22 (t_X2_copyFrom hk h1' (by omega) hW hS) (fun u22 q22 => ?_)
        obtain ⟨-, g1, f1⟩ := q22
        refine r_aload_n dX4_save_25 0 rfl ?_
        refine r_getR (b := 184) (by first | assumption | rfl) f_X4_27 rfl rfl dX4_save_26 rfl ?_
        refine r_iload_n dX4_save_29 1 rfl ?_
        refine r_iconst dX4_save_30 (v := 1) rfl ?_
        refine r_zast (j := _) (by first | assumption | rfl) (by first | assumption | rfl) (by first | assumption | decide) dX4_save_31 ?_
        refine r_aload_n dX4_save_32 0 rfl ?_
        refine r_getR (b := 1) (by first | assumption | rfl) f_X4_10 rfl rfl dX4_save_33 rfl ?_
        refine r_getI (by first | assumption | rfl) f_X4_99 rfl rfl dX4_save_36 ?_
        refine r_iret rfl dX4_save_39 ?_
        have e1 : up1 u22 184 (upd (u22 184) j (vp_nar .boolean 1)) 1 2 = N.1 3 := by rw [up1_n (by omega), f1 1 (by omega)]; exact hS.1.2.2.1
        rw [e1]
        refine ⟨rfl, fun i hi => ?_, fun c hc => (up1_n (by omega)).trans (f1 c (by omega))⟩
        dsimp only
        by_cases e : i = j
        · subst e
          rw [if_pos rfl, if_pos rfl]
          exact ⟨by rw [up1_s, upd, if_pos rfl]; rfl, fun _ => ⟨hW, g1.off hW.cn.2 (fun c c1 c2 => up1_n (by omega))⟩⟩
        · rw [if_neg e, if_neg e]
          refine ⟨by rw [up1_s, upd, if_neg e, f1 184 (by omega)]; exact (hL i hi).1, fun z => ⟨((hL i hi).2 z).1, ((hL i hi).2 z).2.off ((hL i hi).2 z).1.cn.2 (fun c c1 c2 => (up1_n (by omega)).trans (f1 c (by omega)))⟩⟩
      · --f
        exact absurd hs2 h6
theorem t_X4_restore (hW : WN N) (hS : SP S 1 N) (hH : HP S n h) (hL : SL S sv sl) : Call G (d + 7) M_X4_restore [rv G 0, .int s] S (fun r u => r = some (resO N sv sl s).1 ∧ SP u 1 (resO N sv sl s).2 ∧ WN (resO N sv sl s).2 ∧ HP u (rcN (resO N sv sl s).1 n) (rcH (resO N sv sl s).1 n h N) ∧ FC S u) := by
  refine call_of (lo := [(0, rv G 0), (1, .int s)]) (by decide +kernel) (Nat.le_of_ble_eq_true rfl) rfl ?_
  unfold resO
  rcases sl_cases s with g | ⟨j, hj, rfl, ej, g⟩
  · rw [if_pos g]
    refine r_iload_n dX4_restore_0 1 rfl ?_
    refine r_if_lt dX4_restore_1 (tgt := 9) (by decide) (fun h1 => ?_) (fun h1 => ?_)
    · --t
      refine r_bipush dX4_restore_9 (v := -2) (by decide +kernel) ?_
      refine r_iret rfl dX4_restore_11 ?_
      exact ⟨rfl, hS, hW, hH, fun _ _ => rfl⟩
    · --f
      refine r_iload_n dX4_restore_4 1 rfl ?_
      refine r_iconst dX4_restore_5 (v := 2) rfl ?_
      refine r_icmp_lt dX4_restore_6 (tgt := 12) (by decide) (fun h6 => ?_) (fun h6 => ?_)
      · --t
        exact (g.elim h1 (fun z => absurd z (Int32.not_lt.mpr (le1_of h6)))).elim
      · --f
        refine r_bipush dX4_restore_9 (v := -2) (by decide +kernel) ?_
        refine r_iret rfl dX4_restore_11 ?_
        exact ⟨rfl, hS, hW, hH, fun _ _ => rfl⟩
  · rw [if_neg g, ej]
    have hs2 : nI j < 2 := nI_lt (b := 2) hj (by decide)
    have hl : j < ln 147 := hj
    have hl2 : j < ln 184 := hj
    have hk := kd148 hj
    have h1' : kd 1 = 2 := rfl
    have es := (hL j hj).1
    cases esv : sv j
    · rw [if_neg (by decide)]
      rw [esv] at es
      refine r_iload_n dX4_restore_0 1 rfl ?_
      refine r_if_lt dX4_restore_1 (tgt := 9) (by decide) (fun h1 => ?_) (fun h1 => ?_)
      · --t
        exact absurd (Or.inl h1) g
      · --f
        refine r_iload_n dX4_restore_4 1 rfl ?_
        refine r_iconst dX4_restore_5 (v := 2) rfl ?_
        refine r_icmp_lt dX4_restore_6 (tgt := 12) (by decide) (fun h6 => ?_) (fun h6 => ?_)
        · --t
          refine r_aload_n dX4_restore_12 0 rfl ?_
          refine r_getR (b := 184) (by first | assumption | rfl) f_X4_27 rfl rfl dX4_restore_13 rfl ?_
          refine r_iload_n dX4_restore_16 1 rfl ?_
          refine r_zald (j := _) (by first | assumption | rfl) (by first | assumption | rfl) (by first | assumption | decide) dX4_restore_17 ?_
          refine r_if_ne dX4_restore_18 (tgt := 24) (by decide) (fun h18 => ?_) (fun h18 => ?_)
          · --t
            exact absurd es h18
          · --f
            refine r_bipush dX4_restore_21 (v := -5) (by decide +kernel) ?_
            refine r_iret rfl dX4_restore_23 ?_
            exact ⟨rfl, hS, hW, hH, fun _ _ => rfl⟩
        · --f
          exact absurd hs2 h6
    · rw [if_pos rfl]
      rw [esv] at es
      obtain ⟨wl, pl'⟩ := (hL j hj).2 esv
      refine r_iload_n dX4_restore_0 1 rfl ?_
      refine r_if_lt dX4_restore_1 (tgt := 9) (by decide) (fun h1 => ?_) (fun h1 => ?_)
      · --t
        exact absurd (Or.inl h1) g
      · --f
        refine r_iload_n dX4_restore_4 1 rfl ?_
        refine r_iconst dX4_restore_5 (v := 2) rfl ?_
        refine r_icmp_lt dX4_restore_6 (tgt := 12) (by decide) (fun h6 => ?_) (fun h6 => ?_)
        · --t
          refine r_aload_n dX4_restore_12 0 rfl ?_
          refine r_getR (b := 184) (by first | assumption | rfl) f_X4_27 rfl rfl dX4_restore_13 rfl ?_
          refine r_iload_n dX4_restore_16 1 rfl ?_
          refine r_zald (j := _) (by first | assumption | rfl) (by first | assumption | rfl) (by first | assumption | decide) dX4_restore_17 ?_
          refine r_if_ne dX4_restore_18 (tgt := 24) (by decide) (fun h18 => ?_) (fun h18 => ?_)
          · --t
            refine r_aload_n dX4_restore_24 0 rfl ?_
            refine r_getR (b := 19) (by first | assumption | rfl) f_X4_19 rfl rfl dX4_restore_25 rfl ?_
            refine r_aload_n dX4_restore_28 0 rfl ?_
            refine r_getR (b := 1) (by first | assumption | rfl) f_X4_10 rfl rfl dX4_restore_29 rfl ?_
            refine r_callVv (As := [_]) c_X0_note (by first | assumption | rfl) l_X4_45 rfl rfl rfl (Nat.le_of_ble_eq_true rfl) dX4_restore_32 (t_X0_note hH hW hS) (fun u32 q32 => ?_)
            obtain ⟨-, g1, f1⟩ := q32
            refine r_aload_n dX4_restore_35 0 rfl ?_
            refine r_getR (b := 1) (by first | assumption | rfl) f_X4_10 rfl rfl dX4_restore_36 rfl ?_
            refine r_aload_n dX4_restore_39 0 rfl ?_
            refine r_getR (b := 147) (by first | assumption | rfl) f_X4_23 rfl rfl dX4_restore_40 rfl ?_
            refine r_iload_n dX4_restore_43 1 rfl ?_
            refine r_aald9 (j := _) (by first | assumption | rfl) (by first | assumption | rfl) (by first | assumption | decide) (show rf 147 j = 148 + 18 * j from rfl) dX4_restore_44 ?_
            refine r_callVv (As := [_]) c_X2_copyFrom (by first | assumption | rfl) l_X4_232 rfl rfl rfl (Nat.le_of_ble_eq_true rfl) dX4_restore_45 (t_X2_copyFrom h1' hk (by omega) wl (pl'.off wl.cn.2 (fun c c1 c2 => f1 c (by omega)))) (fun u45 q45 => ?_)
            obtain ⟨-, g2, f2⟩ := q45
            refine r_aload_n dX4_restore_48 0 rfl ?_
            refine r_aload_n dX4_restore_49 0 rfl ?_
            refine r_getR (b := 1) (by first | assumption | rfl) f_X4_10 rfl rfl dX4_restore_50 rfl ?_
            refine r_getI (by first | assumption | rfl) f_X4_99 rfl rfl dX4_restore_53 ?_
            refine r_callVi (As := [_]) c_X4_recorded (by first | assumption | rfl) l_X4_53 rfl rfl rfl (Nat.le_of_ble_eq_true rfl) dX4_restore_56 (t_X4_recorded (N := N) (g1.fs f2)) (fun r56 u56 q56 => ?_)
            obtain ⟨e3, g3, f3⟩ := q56
            cases e3
            refine r_iret rfl dX4_restore_59 ?_
            have e1 : u45 1 2 = (sl j).1 3 := g2.1.2.2.1
            rw [e1] at g3 ⊢
            exact ⟨rfl, g2.fh wl.cn.2 f3, wl, g3, fun b hb => (f3 b (by omega)).trans ((f2 b (by omega)).trans (f1 b (by omega)))⟩
          · --f
            exact absurd (by rw [es] at h18; exact h18) (by decide)
        · --f
          exact absurd hs2 h6
end PUB
