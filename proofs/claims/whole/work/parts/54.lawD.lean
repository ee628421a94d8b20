/-! the law: its loop -/
section LOOP
variable {p : Program} {e : Env} {s : State} {m : MethodId} {below : List Frame} {meth : Method} {c : Code} {G : mG} {b L : Nat} {xs : Nat → Int32} {S : mS}
theorem lp_law (C0 : lw_At p s m meth c b L xs) (hK : va_K G.2.1 mcl (mTy G) s) (hL : L ≤ 2048) : ∀ n i S, L + 4 ≤ i + n → i ≤ L + 4 → Inv S → LW p e s m below meth c G b 18 [(0, .ref b), (1, rv G 0), (2, rv G 190), (3, .int (nI i))] [] S := by
  intro n
  induction n with
  | zero =>
    intro i S h1 h2 hI
    obtain rfl : i = L + 4 := by omega
    refine l_iload_n C0 dL_law_18 3 rfl ?_
    refine l_aload_n C0 dL_law_19 0 rfl ?_
    refine l_slen C0 dL_law_20 ?_
    refine l_iconst C0 dL_law_21 (v := 4) rfl ?_
    refine l_isub C0 dL_law_22 ?_
    refine l_icmp_gt C0 dL_law_23 (tgt := 721) (by decide) (fun _ => ?_) (fun z => absurd ?_ z)
    · refine l_iconst C0 dL_law_721 (v := 1) rfl ?_
      exact l_ret C0 dL_law_722
    · show nI L - nI 4 < nI (L + 4)
      rw [Int32.lt_iff_toInt_lt, pk_sub_toInt (by omega) (by omega), nI_toInt (by omega)]
      omega
  | succ n ih =>
    intro i S h1 h2 hI
    refine l_iload_n C0 dL_law_18 3 rfl ?_
    refine l_aload_n C0 dL_law_19 0 rfl ?_
    refine l_slen C0 dL_law_20 ?_
    refine l_iconst C0 dL_law_21 (v := 4) rfl ?_
    refine l_isub C0 dL_law_22 ?_
    refine l_icmp_gt C0 dL_law_23 (tgt := 721) (by decide) (fun _ => ?_) (fun z => ?_)
    · refine l_iconst C0 dL_law_721 (v := 1) rfl ?_
      exact l_ret C0 dL_law_722
    · have hi : i + 3 < L := by
        replace z : ¬ nI L - nI 4 < nI i := z
        rw [Int32.lt_iff_toInt_lt, pk_sub_toInt (by omega) (by omega), nI_toInt (by omega)] at z
        omega
      have tl : ∀ u, Inv u → LW p e s m below meth c G b 715 [(0, .ref b), (1, rv G 0), (2, rv G 190), (3, .int (nI i))] [] u := fun u hu => by
        refine l_iinc (lo2 := [(0, _), (1, _), (2, _), (3, _)]) C0 dL_law_715 3 rfl (w := 4) rfl (Nat.le_of_ble_eq_true rfl) [1, 2, 3, 0] rfl ?_
        refine l_goto C0 dL_law_718 (tgt := 18) (by decide) ?_
        rw [show (4 : Int32) = nI 4 from rfl, nI_add]
        exact ih (i + 4) u (by omega) (by omega) hu
      refine l_aload_n C0 dL_law_26 0 rfl ?_
      refine l_iload_n C0 dL_law_27 3 rfl ?_
      refine l_sld (j := i) C0 hL rfl (by omega) dL_law_28 ?_
      refine l_bipush C0 dL_law_29 (v := 31) (by decide +kernel) ?_
      refine l_iand C0 dL_law_31 ?_
      generalize xs i &&& 31 = w
      rcases tab_split w 0 21 (by decide) with hsw | ⟨j, hj, hsw⟩
      · exact l_tabOut (tgt := 715) C0 dL_law_32 (tab_out hsw (by decide)) (by decide) (tl S hI)
      · subst hsw
        match j, hj with
        | 0, _ => exact l_tabIn (off := 100) (tgt := 132) C0 dL_law_32 (by decide) (by decide) rfl (by decide) (lc_set C0 hK hL hi hI tl)
        | 1, _ => exact l_tabIn (off := 133) (tgt := 165) C0 dL_law_32 (by decide) (by decide) rfl (by decide) (lc_troop C0 hK hL hi hI tl)
        | 2, _ => exact l_tabIn (off := 156) (tgt := 188) C0 dL_law_32 (by decide) (by decide) rfl (by decide) (lc_resize C0 hK hL hi hI tl)
        | 3, _ => exact l_tabIn (off := 189) (tgt := 221) C0 dL_law_32 (by decide) (by decide) rfl (by decide) (lc_come C0 hK hL hi hI tl)
        | 4, _ => exact l_tabIn (off := 232) (tgt := 264) C0 dL_law_32 (by decide) (by decide) rfl (by decide) (lc_lose C0 hK hL hi hI tl)
        | 5, _ => exact l_tabIn (off := 265) (tgt := 297) C0 dL_law_32 (by decide) (by decide) rfl (by decide) (lc_find C0 hK hL hi hI tl)
        | 6, _ => exact l_tabIn (off := 298) (tgt := 330) C0 dL_law_32 (by decide) (by decide) rfl (by decide) (lc_pass C0 hK hL hi hI tl)
        | 7, _ => exact l_tabIn (off := 321) (tgt := 353) C0 dL_law_32 (by decide) (by decide) rfl (by decide) (lc_ofTroop C0 hK hL hi hI tl)
        | 8, _ => exact l_tabIn (off := 354) (tgt := 386) C0 dL_law_32 (by decide) (by decide) rfl (by decide) (lc_of C0 hK hL hi hI tl)
        | 9, _ => exact l_tabIn (off := 397) (tgt := 429) C0 dL_law_32 (by decide) (by decide) rfl (by decide) (lc_count C0 hK hL hi hI tl)
        | 10, _ => exact l_tabIn (off := 420) (tgt := 452) C0 dL_law_32 (by decide) (by decide) rfl (by decide) (lc_why C0 hK hL hi hI tl)
        | 11, _ => exact l_tabIn (off := 463) (tgt := 495) C0 dL_law_32 (by decide) (by decide) rfl (by decide) (lc_waitsFor C0 hK hL hi hI tl)
        | 12, _ => exact l_tabIn (off := 486) (tgt := 518) C0 dL_law_32 (by decide) (by decide) rfl (by decide) (lc_opensIn C0 hK hL hi hI tl)
        | 13, _ => exact l_tabIn (off := 509) (tgt := 541) C0 dL_law_32 (by decide) (by decide) rfl (by decide) (lc_couldHike C0 hK hL hi hI tl)
        | 14, _ => exact l_tabIn (off := 532) (tgt := 564) C0 dL_law_32 (by decide) (by decide) rfl (by decide) (lc_put C0 hK hL hi hI tl)
        | 15, _ => exact l_tabIn (off := 585) (tgt := 617) C0 dL_law_32 (by decide) (by decide) rfl (by decide) (lc_wipe C0 hK hL hi hI tl)
        | 16, _ => exact l_tabIn (off := 598) (tgt := 630) C0 dL_law_32 (by decide) (by decide) rfl (by decide) (lc_fault C0 hK hL hi hI tl)
        | 17, _ => exact l_tabIn (off := 611) (tgt := 643) C0 dL_law_32 (by decide) (by decide) rfl (by decide) (lc_carryOut C0 hK hL hi hI tl)
        | 18, _ => exact l_tabIn (off := 624) (tgt := 656) C0 dL_law_32 (by decide) (by decide) rfl (by decide) (lc_undo C0 hK hL hi hI tl)
        | 19, _ => exact l_tabIn (off := 637) (tgt := 669) C0 dL_law_32 (by decide) (by decide) rfl (by decide) (lc_save C0 hK hL hi hI tl)
        | 20, _ => exact l_tabIn (off := 660) (tgt := 692) C0 dL_law_32 (by decide) (by decide) rfl (by decide) (lc_restore C0 hK hL hi hI tl)
        | (j + 21), hj => exact absurd hj (by omega)
end LOOP
