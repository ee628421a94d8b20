/-! the law: each call, of the class and of the reference -/
section CALLS
variable {p : Program} {e : Env} {s : State} {m : MethodId} {below : List Frame} {meth : Method} {c : Code} {G : mG} {b L : Nat} {xs : Nat → Int32} {S : mS}
theorem lc_set (C0 : lw_At p s m meth c b L xs) (hK : va_K G.2.1 mcl (mTy G) s) (hL : L ≤ 2048) {i : Nat} (hi : i + 3 < L) (hI : Inv S) (hx : ∀ u, Inv u → LW p e s m below meth c G b 715 [(0, .ref b), (1, rv G 0), (2, rv G 190), (3, .int (nI i))] [] u) : LW p e s m below meth c G b 132 [(0, .ref b), (1, rv G 0), (2, rv G 190), (3, .int (nI i))] [] S := by
  obtain ⟨N, n, h, sv, sl, len, P, hW, hC, hR⟩ := hI
  refine l_aload_n C0 dL_law_132 1 rfl ?_
  refine l_aload_n C0 dL_law_133 0 rfl ?_
  refine l_iload_n C0 dL_law_134 3 rfl ?_
  refine l_iconst C0 dL_law_135 (v := 1) rfl ?_
  refine l_iadd C0 dL_law_136 ?_
  refine l_sld (j := i + 1) C0 hL (by rw [show (1 : Int32) = nI 1 from rfl, nI_add]) (by omega) dL_law_137 ?_
  refine l_aload_n C0 dL_law_138 0 rfl ?_
  refine l_iload_n C0 dL_law_139 3 rfl ?_
  refine l_iconst C0 dL_law_140 (v := 2) rfl ?_
  refine l_iadd C0 dL_law_141 ?_
  refine l_sld (j := i + 2) C0 hL (by rw [show (2 : Int32) = nI 2 from rfl, nI_add]) (by omega) dL_law_142 ?_
  refine l_callV (As := [_, _]) C0 hK c_X4_set rfl l_L_13 rfl rfl rfl (Nat.le_of_ble_eq_true rfl) dL_law_143 (t_X4_set (d := 4) hW hC.1 hC.2.1) (fun r0 u0 q0 => ?_)
  obtain ⟨e0, g1, g2, f1⟩ := q0
  cases e0
  have hW1 := (wn_set hW (xs (i + 1)) (xs (i + 2)))
  have hC1 : CI u0 _ _ _ sv sl len P := ⟨g1, g2, hC.2.2.1.off (fun c c1 c2 => f1 c (by omega)), hC.2.2.2.off (f1 185 (by omega)) (f1 186 (by omega))⟩
  have hR1 : RI u0 N n h sv sl len P := RI.off hR (fun c hc => f1 c (by omega))
  refine l_aload_n C0 dL_law_146 2 rfl ?_
  refine l_aload_n C0 dL_law_147 0 rfl ?_
  refine l_iload_n C0 dL_law_148 3 rfl ?_
  refine l_iconst C0 dL_law_149 (v := 1) rfl ?_
  refine l_iadd C0 dL_law_150 ?_
  refine l_sld (j := i + 1) C0 hL (by rw [show (1 : Int32) = nI 1 from rfl, nI_add]) (by omega) dL_law_151 ?_
  refine l_aload_n C0 dL_law_152 0 rfl ?_
  refine l_iload_n C0 dL_law_153 3 rfl ?_
  refine l_iconst C0 dL_law_154 (v := 2) rfl ?_
  refine l_iadd C0 dL_law_155 ?_
  refine l_sld (j := i + 2) C0 hL (by rw [show (2 : Int32) = nI 2 from rfl, nI_add]) (by omega) dL_law_156 ?_
  refine l_callV (As := [_, _]) C0 hK c_X5_set rfl l_L_17 rfl rfl rfl (Nat.le_of_ble_eq_true rfl) dL_law_157 (t_X5_set (d := 4) hW hR1.1 hR1.2.1) (fun r1 u1 q1 => ?_)
  obtain ⟨e1, k1, k2, f2⟩ := q1
  cases e1
  refine l_icmp_eq (tgt := 715) C0 dL_law_160 (by decide) ?_
  exact hx _ ⟨_, _, _, sv, sl, len, P, hW1, hC1.off hW1 (fun x hx => f2.1 x (by omega) (by omega) (by omega) (by omega)), k1, k2, hR1.2.2.1.same (f2.1 196 (by omega) (by omega) (by omega) (by omega)) (f2.1 195 (by omega) (by omega) (by omega) (by omega)), hR1.2.2.2.same (f2.2 8 (by omega)) (f2.1 197 (by omega) (by omega) (by omega) (by omega))⟩
theorem lc_troop (C0 : lw_At p s m meth c b L xs) (hK : va_K G.2.1 mcl (mTy G) s) (hL : L ≤ 2048) {i : Nat} (hi : i + 3 < L) (hI : Inv S) (hx : ∀ u, Inv u → LW p e s m below meth c G b 715 [(0, .ref b), (1, rv G 0), (2, rv G 190), (3, .int (nI i))] [] u) : LW p e s m below meth c G b 165 [(0, .ref b), (1, rv G 0), (2, rv G 190), (3, .int (nI i))] [] S := by
  obtain ⟨N, n, h, sv, sl, len, P, hW, hC, hR⟩ := hI
  refine l_aload_n C0 dL_law_165 1 rfl ?_
  refine l_aload_n C0 dL_law_166 0 rfl ?_
  refine l_iload_n C0 dL_law_167 3 rfl ?_
  refine l_iconst C0 dL_law_168 (v := 1) rfl ?_
  refine l_iadd C0 dL_law_169 ?_
  refine l_sld (j := i + 1) C0 hL (by rw [show (1 : Int32) = nI 1 from rfl, nI_add]) (by omega) dL_law_170 ?_
  refine l_callV (As := [_]) C0 hK c_X4_troop rfl l_L_18 rfl rfl rfl (Nat.le_of_ble_eq_true rfl) dL_law_171 (t_X4_troop (d := 4) hW hC.1 hC.2.1) (fun r0 u0 q0 => ?_)
  obtain ⟨e0, g1, g2, f1⟩ := q0
  cases e0
  have hW1 := (hW.add0 (xs (i + 1)))
  have hC1 : CI u0 _ _ _ sv sl len P := ⟨g1, g2, hC.2.2.1.off (fun c c1 c2 => f1 c (by omega)), hC.2.2.2.off (f1 185 (by omega)) (f1 186 (by omega))⟩
  have hR1 : RI u0 N n h sv sl len P := RI.off hR (fun c hc => f1 c (by omega))
  refine l_aload_n C0 dL_law_174 2 rfl ?_
  refine l_aload_n C0 dL_law_175 0 rfl ?_
  refine l_iload_n C0 dL_law_176 3 rfl ?_
  refine l_iconst C0 dL_law_177 (v := 1) rfl ?_
  refine l_iadd C0 dL_law_178 ?_
  refine l_sld (j := i + 1) C0 hL (by rw [show (1 : Int32) = nI 1 from rfl, nI_add]) (by omega) dL_law_179 ?_
  refine l_callV (As := [_]) C0 hK c_X5_troop rfl l_L_22 rfl rfl rfl (Nat.le_of_ble_eq_true rfl) dL_law_180 (t_X5_troop (d := 4) hW hR1.1 hR1.2.1) (fun r1 u1 q1 => ?_)
  obtain ⟨e1, k1, k2, f2⟩ := q1
  cases e1
  refine l_icmp_eq (tgt := 715) C0 dL_law_183 (by decide) ?_
  exact hx _ ⟨_, _, _, sv, sl, len, P, hW1, hC1.off hW1 (fun x hx => f2.1 x (by omega) (by omega) (by omega) (by omega)), k1, k2, hR1.2.2.1.same (f2.1 196 (by omega) (by omega) (by omega) (by omega)) (f2.1 195 (by omega) (by omega) (by omega) (by omega)), hR1.2.2.2.same (f2.2 8 (by omega)) (f2.1 197 (by omega) (by omega) (by omega) (by omega))⟩
theorem lc_resize (C0 : lw_At p s m meth c b L xs) (hK : va_K G.2.1 mcl (mTy G) s) (hL : L ≤ 2048) {i : Nat} (hi : i + 3 < L) (hI : Inv S) (hx : ∀ u, Inv u → LW p e s m below meth c G b 715 [(0, .ref b), (1, rv G 0), (2, rv G 190), (3, .int (nI i))] [] u) : LW p e s m below meth c G b 188 [(0, .ref b), (1, rv G 0), (2, rv G 190), (3, .int (nI i))] [] S := by
  obtain ⟨N, n, h, sv, sl, len, P, hW, hC, hR⟩ := hI
  refine l_aload_n C0 dL_law_188 1 rfl ?_
  refine l_aload_n C0 dL_law_189 0 rfl ?_
  refine l_iload_n C0 dL_law_190 3 rfl ?_
  refine l_iconst C0 dL_law_191 (v := 1) rfl ?_
  refine l_iadd C0 dL_law_192 ?_
  refine l_sld (j := i + 1) C0 hL (by rw [show (1 : Int32) = nI 1 from rfl, nI_add]) (by omega) dL_law_193 ?_
  refine l_aload_n C0 dL_law_194 0 rfl ?_
  refine l_iload_n C0 dL_law_195 3 rfl ?_
  refine l_iconst C0 dL_law_196 (v := 2) rfl ?_
  refine l_iadd C0 dL_law_197 ?_
  refine l_sld (j := i + 2) C0 hL (by rw [show (2 : Int32) = nI 2 from rfl, nI_add]) (by omega) dL_law_198 ?_
  refine l_callV (As := [_, _]) C0 hK c_X4_resize rfl l_L_23 rfl rfl rfl (Nat.le_of_ble_eq_true rfl) dL_law_199 (t_X4_resize (d := 4) hW hC.1 hC.2.1) (fun r0 u0 q0 => ?_)
  obtain ⟨e0, g1, g2, f1⟩ := q0
  cases e0
  have hW1 := (wn_rsz hW (xs (i + 1)) (xs (i + 2)))
  have hC1 : CI u0 _ _ _ sv sl len P := ⟨g1, g2, hC.2.2.1.off (fun c c1 c2 => f1 c (by omega)), hC.2.2.2.off (f1 185 (by omega)) (f1 186 (by omega))⟩
  have hR1 : RI u0 N n h sv sl len P := RI.off hR (fun c hc => f1 c (by omega))
  refine l_aload_n C0 dL_law_202 2 rfl ?_
  refine l_aload_n C0 dL_law_203 0 rfl ?_
  refine l_iload_n C0 dL_law_204 3 rfl ?_
  refine l_iconst C0 dL_law_205 (v := 1) rfl ?_
  refine l_iadd C0 dL_law_206 ?_
  refine l_sld (j := i + 1) C0 hL (by rw [show (1 : Int32) = nI 1 from rfl, nI_add]) (by omega) dL_law_207 ?_
  refine l_aload_n C0 dL_law_208 0 rfl ?_
  refine l_iload_n C0 dL_law_209 3 rfl ?_
  refine l_iconst C0 dL_law_210 (v := 2) rfl ?_
  refine l_iadd C0 dL_law_211 ?_
  refine l_sld (j := i + 2) C0 hL (by rw [show (2 : Int32) = nI 2 from rfl, nI_add]) (by omega) dL_law_212 ?_
  refine l_callV (As := [_, _]) C0 hK c_X5_resize rfl l_L_26 rfl rfl rfl (Nat.le_of_ble_eq_true rfl) dL_law_213 (t_X5_resize (d := 4) hW hR1.1 hR1.2.1) (fun r1 u1 q1 => ?_)
  obtain ⟨e1, k1, k2, f2⟩ := q1
  cases e1
  refine l_icmp_eq (tgt := 715) C0 dL_law_216 (by decide) ?_
  exact hx _ ⟨_, _, _, sv, sl, len, P, hW1, hC1.off hW1 (fun x hx => f2.1 x (by omega) (by omega) (by omega) (by omega)), k1, k2, hR1.2.2.1.same (f2.1 196 (by omega) (by omega) (by omega) (by omega)) (f2.1 195 (by omega) (by omega) (by omega) (by omega)), hR1.2.2.2.same (f2.2 8 (by omega)) (f2.1 197 (by omega) (by omega) (by omega) (by omega))⟩
theorem lc_come (C0 : lw_At p s m meth c b L xs) (hK : va_K G.2.1 mcl (mTy G) s) (hL : L ≤ 2048) {i : Nat} (hi : i + 3 < L) (hI : Inv S) (hx : ∀ u, Inv u → LW p e s m below meth c G b 715 [(0, .ref b), (1, rv G 0), (2, rv G 190), (3, .int (nI i))] [] u) : LW p e s m below meth c G b 221 [(0, .ref b), (1, rv G 0), (2, rv G 190), (3, .int (nI i))] [] S := by
  obtain ⟨N, n, h, sv, sl, len, P, hW, hC, hR⟩ := hI
  refine l_aload_n C0 dL_law_221 1 rfl ?_
  refine l_aload_n C0 dL_law_222 0 rfl ?_
  refine l_iload_n C0 dL_law_223 3 rfl ?_
  refine l_iconst C0 dL_law_224 (v := 1) rfl ?_
  refine l_iadd C0 dL_law_225 ?_
  refine l_sld (j := i + 1) C0 hL (by rw [show (1 : Int32) = nI 1 from rfl, nI_add]) (by omega) dL_law_226 ?_
  refine l_aload_n C0 dL_law_227 0 rfl ?_
  refine l_iload_n C0 dL_law_228 3 rfl ?_
  refine l_iconst C0 dL_law_229 (v := 2) rfl ?_
  refine l_iadd C0 dL_law_230 ?_
  refine l_sld (j := i + 2) C0 hL (by rw [show (2 : Int32) = nI 2 from rfl, nI_add]) (by omega) dL_law_231 ?_
  refine l_aload_n C0 dL_law_232 0 rfl ?_
  refine l_iload_n C0 dL_law_233 3 rfl ?_
  refine l_iconst C0 dL_law_234 (v := 3) rfl ?_
  refine l_iadd C0 dL_law_235 ?_
  refine l_sld (j := i + 3) C0 hL (by rw [show (3 : Int32) = nI 3 from rfl, nI_add]) (by omega) dL_law_236 ?_
  refine l_callV (As := [_, _, _]) C0 hK c_X4_come rfl l_L_27 rfl rfl rfl (Nat.le_of_ble_eq_true rfl) dL_law_237 (t_X4_come (d := 4) hW hC.1 hC.2.1) (fun r0 u0 q0 => ?_)
  obtain ⟨e0, g1, g2, f1⟩ := q0
  cases e0
  have hW1 := (wn_com hW (xs (i + 1)) (xs (i + 2)) (xs (i + 3)))
  have hC1 : CI u0 _ _ _ sv sl len P := ⟨g1, g2, hC.2.2.1.off (fun c c1 c2 => f1 c (by omega)), hC.2.2.2.off (f1 185 (by omega)) (f1 186 (by omega))⟩
  have hR1 : RI u0 N n h sv sl len P := RI.off hR (fun c hc => f1 c (by omega))
  refine l_aload_n C0 dL_law_240 2 rfl ?_
  refine l_aload_n C0 dL_law_241 0 rfl ?_
  refine l_iload_n C0 dL_law_242 3 rfl ?_
  refine l_iconst C0 dL_law_243 (v := 1) rfl ?_
  refine l_iadd C0 dL_law_244 ?_
  refine l_sld (j := i + 1) C0 hL (by rw [show (1 : Int32) = nI 1 from rfl, nI_add]) (by omega) dL_law_245 ?_
  refine l_aload_n C0 dL_law_246 0 rfl ?_
  refine l_iload_n C0 dL_law_247 3 rfl ?_
  refine l_iconst C0 dL_law_248 (v := 2) rfl ?_
  refine l_iadd C0 dL_law_249 ?_
  refine l_sld (j := i + 2) C0 hL (by rw [show (2 : Int32) = nI 2 from rfl, nI_add]) (by omega) dL_law_250 ?_
  refine l_aload_n C0 dL_law_251 0 rfl ?_
  refine l_iload_n C0 dL_law_252 3 rfl ?_
  refine l_iconst C0 dL_law_253 (v := 3) rfl ?_
  refine l_iadd C0 dL_law_254 ?_
  refine l_sld (j := i + 3) C0 hL (by rw [show (3 : Int32) = nI 3 from rfl, nI_add]) (by omega) dL_law_255 ?_
  refine l_callV (As := [_, _, _]) C0 hK c_X5_come rfl l_L_31 rfl rfl rfl (Nat.le_of_ble_eq_true rfl) dL_law_256 (t_X5_come (d := 4) hW hR1.1 hR1.2.1) (fun r1 u1 q1 => ?_)
  obtain ⟨e1, k1, k2, f2⟩ := q1
  cases e1
  refine l_icmp_eq (tgt := 715) C0 dL_law_259 (by decide) ?_
  exact hx _ ⟨_, _, _, sv, sl, len, P, hW1, hC1.off hW1 (fun x hx => f2.1 x (by omega) (by omega) (by omega) (by omega)), k1, k2, hR1.2.2.1.same (f2.1 196 (by omega) (by omega) (by omega) (by omega)) (f2.1 195 (by omega) (by omega) (by omega) (by omega)), hR1.2.2.2.same (f2.2 8 (by omega)) (f2.1 197 (by omega) (by omega) (by omega) (by omega))⟩
theorem lc_lose (C0 : lw_At p s m meth c b L xs) (hK : va_K G.2.1 mcl (mTy G) s) (hL : L ≤ 2048) {i : Nat} (hi : i + 3 < L) (hI : Inv S) (hx : ∀ u, Inv u → LW p e s m below meth c G b 715 [(0, .ref b), (1, rv G 0), (2, rv G 190), (3, .int (nI i))] [] u) : LW p e s m below meth c G b 264 [(0, .ref b), (1, rv G 0), (2, rv G 190), (3, .int (nI i))] [] S := by
  obtain ⟨N, n, h, sv, sl, len, P, hW, hC, hR⟩ := hI
  refine l_aload_n C0 dL_law_264 1 rfl ?_
  refine l_aload_n C0 dL_law_265 0 rfl ?_
  refine l_iload_n C0 dL_law_266 3 rfl ?_
  refine l_iconst C0 dL_law_267 (v := 1) rfl ?_
  refine l_iadd C0 dL_law_268 ?_
  refine l_sld (j := i + 1) C0 hL (by rw [show (1 : Int32) = nI 1 from rfl, nI_add]) (by omega) dL_law_269 ?_
  refine l_aload_n C0 dL_law_270 0 rfl ?_
  refine l_iload_n C0 dL_law_271 3 rfl ?_
  refine l_iconst C0 dL_law_272 (v := 2) rfl ?_
  refine l_iadd C0 dL_law_273 ?_
  refine l_sld (j := i + 2) C0 hL (by rw [show (2 : Int32) = nI 2 from rfl, nI_add]) (by omega) dL_law_274 ?_
  refine l_callV (As := [_, _]) C0 hK c_X4_lose rfl l_L_32 rfl rfl rfl (Nat.le_of_ble_eq_true rfl) dL_law_275 (t_X4_lose (d := 4) hW hC.1 hC.2.1) (fun r0 u0 q0 => ?_)
  obtain ⟨e0, g1, g2, f1⟩ := q0
  cases e0
  have hW1 := (wn_los hW (xs (i + 1)) (xs (i + 2)))
  have hC1 : CI u0 _ _ _ sv sl len P := ⟨g1, g2, hC.2.2.1.off (fun c c1 c2 => f1 c (by omega)), hC.2.2.2.off (f1 185 (by omega)) (f1 186 (by omega))⟩
  have hR1 : RI u0 N n h sv sl len P := RI.off hR (fun c hc => f1 c (by omega))
  refine l_aload_n C0 dL_law_278 2 rfl ?_
  refine l_aload_n C0 dL_law_279 0 rfl ?_
  refine l_iload_n C0 dL_law_280 3 rfl ?_
  refine l_iconst C0 dL_law_281 (v := 1) rfl ?_
  refine l_iadd C0 dL_law_282 ?_
  refine l_sld (j := i + 1) C0 hL (by rw [show (1 : Int32) = nI 1 from rfl, nI_add]) (by omega) dL_law_283 ?_
  refine l_aload_n C0 dL_law_284 0 rfl ?_
  refine l_iload_n C0 dL_law_285 3 rfl ?_
  refine l_iconst C0 dL_law_286 (v := 2) rfl ?_
  refine l_iadd C0 dL_law_287 ?_
  refine l_sld (j := i + 2) C0 hL (by rw [show (2 : Int32) = nI 2 from rfl, nI_add]) (by omega) dL_law_288 ?_
  refine l_callV (As := [_, _]) C0 hK c_X5_lose rfl l_L_35 rfl rfl rfl (Nat.le_of_ble_eq_true rfl) dL_law_289 (t_X5_lose (d := 4) hW hR1.1 hR1.2.1) (fun r1 u1 q1 => ?_)
  obtain ⟨e1, k1, k2, f2⟩ := q1
  cases e1
  refine l_icmp_eq (tgt := 715) C0 dL_law_292 (by decide) ?_
  exact hx _ ⟨_, _, _, sv, sl, len, P, hW1, hC1.off hW1 (fun x hx => f2.1 x (by omega) (by omega) (by omega) (by omega)), k1, k2, hR1.2.2.1.same (f2.1 196 (by omega) (by omega) (by omega) (by omega)) (f2.1 195 (by omega) (by omega) (by omega) (by omega)), hR1.2.2.2.same (f2.2 8 (by omega)) (f2.1 197 (by omega) (by omega) (by omega) (by omega))⟩
theorem lc_find (C0 : lw_At p s m meth c b L xs) (hK : va_K G.2.1 mcl (mTy G) s) (hL : L ≤ 2048) {i : Nat} (hi : i + 3 < L) (hI : Inv S) (hx : ∀ u, Inv u → LW p e s m below meth c G b 715 [(0, .ref b), (1, rv G 0), (2, rv G 190), (3, .int (nI i))] [] u) : LW p e s m below meth c G b 297 [(0, .ref b), (1, rv G 0), (2, rv G 190), (3, .int (nI i))] [] S := by
  obtain ⟨N, n, h, sv, sl, len, P, hW, hC, hR⟩ := hI
  refine l_aload_n C0 dL_law_297 1 rfl ?_
  refine l_aload_n C0 dL_law_298 0 rfl ?_
  refine l_iload_n C0 dL_law_299 3 rfl ?_
  refine l_iconst C0 dL_law_300 (v := 1) rfl ?_
  refine l_iadd C0 dL_law_301 ?_
  refine l_sld (j := i + 1) C0 hL (by rw [show (1 : Int32) = nI 1 from rfl, nI_add]) (by omega) dL_law_302 ?_
  refine l_aload_n C0 dL_law_303 0 rfl ?_
  refine l_iload_n C0 dL_law_304 3 rfl ?_
  refine l_iconst C0 dL_law_305 (v := 2) rfl ?_
  refine l_iadd C0 dL_law_306 ?_
  refine l_sld (j := i + 2) C0 hL (by rw [show (2 : Int32) = nI 2 from rfl, nI_add]) (by omega) dL_law_307 ?_
  refine l_callV (As := [_, _]) C0 hK c_X4_find rfl l_L_36 rfl rfl rfl (Nat.le_of_ble_eq_true rfl) dL_law_308 (t_X4_find (d := 4) hW hC.1 hC.2.1) (fun r0 u0 q0 => ?_)
  obtain ⟨e0, g1, g2, f1⟩ := q0
  cases e0
  have hW1 := (wn_fin hW (xs (i + 1)) (xs (i + 2)))
  have hC1 : CI u0 _ _ _ sv sl len P := ⟨g1, g2, hC.2.2.1.off (fun c c1 c2 => f1 c (by omega)), hC.2.2.2.off (f1 185 (by omega)) (f1 186 (by omega))⟩
  have hR1 : RI u0 N n h sv sl len P := RI.off hR (fun c hc => f1 c (by omega))
  refine l_aload_n C0 dL_law_311 2 rfl ?_
  refine l_aload_n C0 dL_law_312 0 rfl ?_
  refine l_iload_n C0 dL_law_313 3 rfl ?_
  refine l_iconst C0 dL_law_314 (v := 1) rfl ?_
  refine l_iadd C0 dL_law_315 ?_
  refine l_sld (j := i + 1) C0 hL (by rw [show (1 : Int32) = nI 1 from rfl, nI_add]) (by omega) dL_law_316 ?_
  refine l_aload_n C0 dL_law_317 0 rfl ?_
  refine l_iload_n C0 dL_law_318 3 rfl ?_
  refine l_iconst C0 dL_law_319 (v := 2) rfl ?_
  refine l_iadd C0 dL_law_320 ?_
  refine l_sld (j := i + 2) C0 hL (by rw [show (2 : Int32) = nI 2 from rfl, nI_add]) (by omega) dL_law_321 ?_
  refine l_callV (As := [_, _]) C0 hK c_X5_find rfl l_L_39 rfl rfl rfl (Nat.le_of_ble_eq_true rfl) dL_law_322 (t_X5_find (d := 4) hW hR1.1 hR1.2.1) (fun r1 u1 q1 => ?_)
  obtain ⟨e1, k1, k2, f2⟩ := q1
  cases e1
  refine l_icmp_eq (tgt := 715) C0 dL_law_325 (by decide) ?_
  exact hx _ ⟨_, _, _, sv, sl, len, P, hW1, hC1.off hW1 (fun x hx => f2.1 x (by omega) (by omega) (by omega) (by omega)), k1, k2, hR1.2.2.1.same (f2.1 196 (by omega) (by omega) (by omega) (by omega)) (f2.1 195 (by omega) (by omega) (by omega) (by omega)), hR1.2.2.2.same (f2.2 8 (by omega)) (f2.1 197 (by omega) (by omega) (by omega) (by omega))⟩
theorem lc_pass (C0 : lw_At p s m meth c b L xs) (hK : va_K G.2.1 mcl (mTy G) s) (hL : L ≤ 2048) {i : Nat} (hi : i + 3 < L) (hI : Inv S) (hx : ∀ u, Inv u → LW p e s m below meth c G b 715 [(0, .ref b), (1, rv G 0), (2, rv G 190), (3, .int (nI i))] [] u) : LW p e s m below meth c G b 330 [(0, .ref b), (1, rv G 0), (2, rv G 190), (3, .int (nI i))] [] S := by
  obtain ⟨N, n, h, sv, sl, len, P, hW, hC, hR⟩ := hI
  refine l_aload_n C0 dL_law_330 1 rfl ?_
  refine l_aload_n C0 dL_law_331 0 rfl ?_
  refine l_iload_n C0 dL_law_332 3 rfl ?_
  refine l_iconst C0 dL_law_333 (v := 1) rfl ?_
  refine l_iadd C0 dL_law_334 ?_
  refine l_sld (j := i + 1) C0 hL (by rw [show (1 : Int32) = nI 1 from rfl, nI_add]) (by omega) dL_law_335 ?_
  refine l_callV (As := [_]) C0 hK c_X4_pass rfl l_L_40 rfl rfl rfl (Nat.le_of_ble_eq_true rfl) dL_law_336 (t_X4_pass (d := 4) hW hC.1 hC.2.1) (fun r0 u0 q0 => ?_)
  obtain ⟨e0, g1, g2, f1⟩ := q0
  cases e0
  have hW1 := (wn_pas hW (xs (i + 1)))
  have hC1 : CI u0 _ _ _ sv sl len P := ⟨g1, g2, hC.2.2.1.off (fun c c1 c2 => f1 c (by omega)), hC.2.2.2.off (f1 185 (by omega)) (f1 186 (by omega))⟩
  have hR1 : RI u0 N n h sv sl len P := RI.off hR (fun c hc => f1 c (by omega))
  refine l_aload_n C0 dL_law_339 2 rfl ?_
  refine l_aload_n C0 dL_law_340 0 rfl ?_
  refine l_iload_n C0 dL_law_341 3 rfl ?_
  refine l_iconst C0 dL_law_342 (v := 1) rfl ?_
  refine l_iadd C0 dL_law_343 ?_
  refine l_sld (j := i + 1) C0 hL (by rw [show (1 : Int32) = nI 1 from rfl, nI_add]) (by omega) dL_law_344 ?_
  refine l_callV (As := [_]) C0 hK c_X5_pass rfl l_L_43 rfl rfl rfl (Nat.le_of_ble_eq_true rfl) dL_law_345 (t_X5_pass (d := 4) hW hR1.1 hR1.2.1) (fun r1 u1 q1 => ?_)
  obtain ⟨e1, k1, k2, f2⟩ := q1
  cases e1
  refine l_icmp_eq (tgt := 715) C0 dL_law_348 (by decide) ?_
  exact hx _ ⟨_, _, _, sv, sl, len, P, hW1, hC1.off hW1 (fun x hx => f2.1 x (by omega) (by omega) (by omega) (by omega)), k1, k2, hR1.2.2.1.same (f2.1 196 (by omega) (by omega) (by omega) (by omega)) (f2.1 195 (by omega) (by omega) (by omega) (by omega)), hR1.2.2.2.same (f2.2 8 (by omega)) (f2.1 197 (by omega) (by omega) (by omega) (by omega))⟩
theorem lc_undo (C0 : lw_At p s m meth c b L xs) (hK : va_K G.2.1 mcl (mTy G) s) (hL : L ≤ 2048) {i : Nat} (hi : i + 3 < L) (hI : Inv S) (hx : ∀ u, Inv u → LW p e s m below meth c G b 715 [(0, .ref b), (1, rv G 0), (2, rv G 190), (3, .int (nI i))] [] u) : LW p e s m below meth c G b 656 [(0, .ref b), (1, rv G 0), (2, rv G 190), (3, .int (nI i))] [] S := by
  obtain ⟨N, n, h, sv, sl, len, P, hW, hC, hR⟩ := hI
  refine l_aload_n C0 dL_law_656 1 rfl ?_
  refine l_callV (As := []) C0 hK c_X4_undo rfl l_L_92 rfl rfl rfl (Nat.le_of_ble_eq_true rfl) dL_law_657 (t_X4_undo (d := 4) hW hC.1 hC.2.1) (fun r0 u0 q0 => ?_)
  obtain ⟨e0, g1, hW1, g2, f1⟩ := q0
  cases e0
  have hC1 : CI u0 _ _ _ sv sl len P := ⟨g1, g2, hC.2.2.1.off (fun c c1 c2 => f1 c (by omega)), hC.2.2.2.off (f1 185 (by omega)) (f1 186 (by omega))⟩
  have hR1 : RI u0 N n h sv sl len P := RI.off hR (fun c hc => f1 c (by omega))
  refine l_aload_n C0 dL_law_660 2 rfl ?_
  refine l_callV (As := []) C0 hK c_X5_undo rfl l_L_95 rfl rfl rfl (Nat.le_of_ble_eq_true rfl) dL_law_661 (t_X5_undo (d := 4) hW hR1.1 hR1.2.1) (fun r1 u1 q1 => ?_)
  obtain ⟨e1, k1, -, k2, f2⟩ := q1
  cases e1
  refine l_icmp_eq (tgt := 715) C0 dL_law_664 (by decide) ?_
  exact hx _ ⟨_, _, _, sv, sl, len, P, hW1, hC1.off hW1 (fun x hx => f2.1 x (by omega) (by omega) (by omega) (by omega)), k1, k2, hR1.2.2.1.same (f2.1 196 (by omega) (by omega) (by omega) (by omega)) (f2.1 195 (by omega) (by omega) (by omega) (by omega)), hR1.2.2.2.same (f2.2 8 (by omega)) (f2.1 197 (by omega) (by omega) (by omega) (by omega))⟩
theorem lc_restore (C0 : lw_At p s m meth c b L xs) (hK : va_K G.2.1 mcl (mTy G) s) (hL : L ≤ 2048) {i : Nat} (hi : i + 3 < L) (hI : Inv S) (hx : ∀ u, Inv u → LW p e s m below meth c G b 715 [(0, .ref b), (1, rv G 0), (2, rv G 190), (3, .int (nI i))] [] u) : LW p e s m below meth c G b 692 [(0, .ref b), (1, rv G 0), (2, rv G 190), (3, .int (nI i))] [] S := by
  obtain ⟨N, n, h, sv, sl, len, P, hW, hC, hR⟩ := hI
  refine l_aload_n C0 dL_law_692 1 rfl ?_
  refine l_aload_n C0 dL_law_693 0 rfl ?_
  refine l_iload_n C0 dL_law_694 3 rfl ?_
  refine l_iconst C0 dL_law_695 (v := 1) rfl ?_
  refine l_iadd C0 dL_law_696 ?_
  refine l_sld (j := i + 1) C0 hL (by rw [show (1 : Int32) = nI 1 from rfl, nI_add]) (by omega) dL_law_697 ?_
  refine l_callV (As := [_]) C0 hK c_X4_restore rfl l_L_100 rfl rfl rfl (Nat.le_of_ble_eq_true rfl) dL_law_698 (t_X4_restore (d := 4) hW hC.1 hC.2.1 hC.2.2.1) (fun r0 u0 q0 => ?_)
  obtain ⟨e0, g1, hW1, g2, f1⟩ := q0
  cases e0
  have hC1 : CI u0 _ _ _ sv sl len P := ⟨g1, g2, hC.2.2.1.off (fun c c1 c2 => f1 c (by omega)), hC.2.2.2.off (f1 185 (by omega)) (f1 186 (by omega))⟩
  have hR1 : RI u0 N n h sv sl len P := RI.off hR (fun c hc => f1 c (by omega))
  refine l_aload_n C0 dL_law_701 2 rfl ?_
  refine l_aload_n C0 dL_law_702 0 rfl ?_
  refine l_iload_n C0 dL_law_703 3 rfl ?_
  refine l_iconst C0 dL_law_704 (v := 1) rfl ?_
  refine l_iadd C0 dL_law_705 ?_
  refine l_sld (j := i + 1) C0 hL (by rw [show (1 : Int32) = nI 1 from rfl, nI_add]) (by omega) dL_law_706 ?_
  refine l_callV (As := [_]) C0 hK c_X5_restore rfl l_L_103 rfl rfl rfl (Nat.le_of_ble_eq_true rfl) dL_law_707 (t_X5_restore (d := 4) hW hR1.1 hR1.2.1 hR1.2.2.1) (fun r1 u1 q1 => ?_)
  obtain ⟨e1, k1, -, k2, f2⟩ := q1
  cases e1
  refine l_icmp_eq (tgt := 715) C0 dL_law_710 (by decide) ?_
  exact hx _ ⟨_, _, _, sv, sl, len, P, hW1, hC1.off hW1 (fun x hx => f2.1 x (by omega) (by omega) (by omega) (by omega)), k1, k2, hR1.2.2.1.same (f2.1 196 (by omega) (by omega) (by omega) (by omega)) (f2.1 195 (by omega) (by omega) (by omega) (by omega)), hR1.2.2.2.same (f2.2 8 (by omega)) (f2.1 197 (by omega) (by omega) (by omega) (by omega))⟩
theorem lc_save (C0 : lw_At p s m meth c b L xs) (hK : va_K G.2.1 mcl (mTy G) s) (hL : L ≤ 2048) {i : Nat} (hi : i + 3 < L) (hI : Inv S) (hx : ∀ u, Inv u → LW p e s m below meth c G b 715 [(0, .ref b), (1, rv G 0), (2, rv G 190), (3, .int (nI i))] [] u) : LW p e s m below meth c G b 669 [(0, .ref b), (1, rv G 0), (2, rv G 190), (3, .int (nI i))] [] S := by
  obtain ⟨N, n, h, sv, sl, len, P, hW, hC, hR⟩ := hI
  refine l_aload_n C0 dL_law_669 1 rfl ?_
  refine l_aload_n C0 dL_law_670 0 rfl ?_
  refine l_iload_n C0 dL_law_671 3 rfl ?_
  refine l_iconst C0 dL_law_672 (v := 1) rfl ?_
  refine l_iadd C0 dL_law_673 ?_
  refine l_sld (j := i + 1) C0 hL (by rw [show (1 : Int32) = nI 1 from rfl, nI_add]) (by omega) dL_law_674 ?_
  refine l_callV (As := [_]) C0 hK c_X4_save rfl l_L_96 rfl rfl rfl (Nat.le_of_ble_eq_true rfl) dL_law_675 (t_X4_save (d := 5) hW hC.1 hC.2.2.1) (fun r0 u0 q0 => ?_)
  obtain ⟨e0, g1, f1⟩ := q0
  cases e0
  have hC1 : CI u0 N n h _ _ len P := ⟨hC.1.off hW.cn.2 (fun c c1 c2 => f1 c (by omega)), hC.2.1.off (fun c c1 c2 => f1 c (by omega)), g1, hC.2.2.2.off (f1 185 (by omega)) (f1 186 (by omega))⟩
  have hR1 : RI u0 N n h sv sl len P := RI.off hR (fun c hc => f1 c (by omega))
  refine l_aload_n C0 dL_law_678 2 rfl ?_
  refine l_aload_n C0 dL_law_679 0 rfl ?_
  refine l_iload_n C0 dL_law_680 3 rfl ?_
  refine l_iconst C0 dL_law_681 (v := 1) rfl ?_
  refine l_iadd C0 dL_law_682 ?_
  refine l_sld (j := i + 1) C0 hL (by rw [show (1 : Int32) = nI 1 from rfl, nI_add]) (by omega) dL_law_683 ?_
  refine l_callV (As := [_]) C0 hK c_X5_save rfl l_L_99 rfl rfl rfl (Nat.le_of_ble_eq_true rfl) dL_law_684 (t_X5_save (d := 5) hW hR1.1 hR1.2.2.1) (fun r1 u1 q1 => ?_)
  obtain ⟨e1, k1, f2⟩ := q1
  cases e1
  refine l_icmp_eq (tgt := 715) C0 dL_law_687 (by decide) ?_
  exact hx _ ⟨N, n, h, _, _, len, P, hW, hC1.off hW (fun x hx => f2 x (by omega) (by omega)), by rw [f2 191 (by omega) (by omega)]; exact hR1.1, hR1.2.1.same (by rw [f2 190 (by omega) (by omega)]) (f2 192 (by omega) (by omega)), k1, hR1.2.2.2.same (by rw [f2 190 (by omega) (by omega)]) (f2 197 (by omega) (by omega))⟩
theorem lc_ofTroop (C0 : lw_At p s m meth c b L xs) (hK : va_K G.2.1 mcl (mTy G) s) (hL : L ≤ 2048) {i : Nat} (hi : i + 3 < L) (hI : Inv S) (hx : ∀ u, Inv u → LW p e s m below meth c G b 715 [(0, .ref b), (1, rv G 0), (2, rv G 190), (3, .int (nI i))] [] u) : LW p e s m below meth c G b 353 [(0, .ref b), (1, rv G 0), (2, rv G 190), (3, .int (nI i))] [] S := by
  obtain ⟨N, n, h, sv, sl, len, P, hW, hC, hR⟩ := hI
  refine l_aload_n C0 dL_law_353 1 rfl ?_
  refine l_aload_n C0 dL_law_354 0 rfl ?_
  refine l_iload_n C0 dL_law_355 3 rfl ?_
  refine l_iconst C0 dL_law_356 (v := 1) rfl ?_
  refine l_iadd C0 dL_law_357 ?_
  refine l_sld (j := i + 1) C0 hL (by rw [show (1 : Int32) = nI 1 from rfl, nI_add]) (by omega) dL_law_358 ?_
  refine l_aload_n C0 dL_law_359 0 rfl ?_
  refine l_iload_n C0 dL_law_360 3 rfl ?_
  refine l_iconst C0 dL_law_361 (v := 2) rfl ?_
  refine l_iadd C0 dL_law_362 ?_
  refine l_sld (j := i + 2) C0 hL (by rw [show (2 : Int32) = nI 2 from rfl, nI_add]) (by omega) dL_law_363 ?_
  refine l_callV (As := [_, _]) C0 hK c_X4_ofTroop rfl l_L_44 rfl rfl rfl (Nat.le_of_ble_eq_true rfl) dL_law_364 (t_X4_ofTroop (d := 8) hW hC.1) (fun r0 u0 q0 => ?_)
  obtain ⟨e0, rfl⟩ := q0
  cases e0
  refine l_aload_n C0 dL_law_367 2 rfl ?_
  refine l_aload_n C0 dL_law_368 0 rfl ?_
  refine l_iload_n C0 dL_law_369 3 rfl ?_
  refine l_iconst C0 dL_law_370 (v := 1) rfl ?_
  refine l_iadd C0 dL_law_371 ?_
  refine l_sld (j := i + 1) C0 hL (by rw [show (1 : Int32) = nI 1 from rfl, nI_add]) (by omega) dL_law_372 ?_
  refine l_aload_n C0 dL_law_373 0 rfl ?_
  refine l_iload_n C0 dL_law_374 3 rfl ?_
  refine l_iconst C0 dL_law_375 (v := 2) rfl ?_
  refine l_iadd C0 dL_law_376 ?_
  refine l_sld (j := i + 2) C0 hL (by rw [show (2 : Int32) = nI 2 from rfl, nI_add]) (by omega) dL_law_377 ?_
  refine l_callV (As := [_, _]) C0 hK c_X5_ofTroop rfl l_L_47 rfl rfl rfl (Nat.le_of_ble_eq_true rfl) dL_law_378 (t_X5_ofTroop (d := 8) hW hR.1) (fun r1 u1 q1 => ?_)
  obtain ⟨e1, rfl⟩ := q1
  cases e1
  refine l_icmp_eq (tgt := 715) C0 dL_law_381 (by decide) ?_
  exact hx _ ⟨N, n, h, sv, sl, len, P, hW, hC, hR⟩
theorem lc_of (C0 : lw_At p s m meth c b L xs) (hK : va_K G.2.1 mcl (mTy G) s) (hL : L ≤ 2048) {i : Nat} (hi : i + 3 < L) (hI : Inv S) (hx : ∀ u, Inv u → LW p e s m below meth c G b 715 [(0, .ref b), (1, rv G 0), (2, rv G 190), (3, .int (nI i))] [] u) : LW p e s m below meth c G b 386 [(0, .ref b), (1, rv G 0), (2, rv G 190), (3, .int (nI i))] [] S := by
  obtain ⟨N, n, h, sv, sl, len, P, hW, hC, hR⟩ := hI
  refine l_aload_n C0 dL_law_386 1 rfl ?_
  refine l_aload_n C0 dL_law_387 0 rfl ?_
  refine l_iload_n C0 dL_law_388 3 rfl ?_
  refine l_iconst C0 dL_law_389 (v := 1) rfl ?_
  refine l_iadd C0 dL_law_390 ?_
  refine l_sld (j := i + 1) C0 hL (by rw [show (1 : Int32) = nI 1 from rfl, nI_add]) (by omega) dL_law_391 ?_
  refine l_aload_n C0 dL_law_392 0 rfl ?_
  refine l_iload_n C0 dL_law_393 3 rfl ?_
  refine l_iconst C0 dL_law_394 (v := 2) rfl ?_
  refine l_iadd C0 dL_law_395 ?_
  refine l_sld (j := i + 2) C0 hL (by rw [show (2 : Int32) = nI 2 from rfl, nI_add]) (by omega) dL_law_396 ?_
  refine l_aload_n C0 dL_law_397 0 rfl ?_
  refine l_iload_n C0 dL_law_398 3 rfl ?_
  refine l_iconst C0 dL_law_399 (v := 3) rfl ?_
  refine l_iadd C0 dL_law_400 ?_
  refine l_sld (j := i + 3) C0 hL (by rw [show (3 : Int32) = nI 3 from rfl, nI_add]) (by omega) dL_law_401 ?_
  refine l_callV (As := [_, _, _]) C0 hK c_X4_of rfl l_L_48 rfl rfl rfl (Nat.le_of_ble_eq_true rfl) dL_law_402 (t_X4_of (d := 8) hW hC.1) (fun r0 u0 q0 => ?_)
  obtain ⟨e0, rfl⟩ := q0
  cases e0
  refine l_aload_n C0 dL_law_405 2 rfl ?_
  refine l_aload_n C0 dL_law_406 0 rfl ?_
  refine l_iload_n C0 dL_law_407 3 rfl ?_
  refine l_iconst C0 dL_law_408 (v := 1) rfl ?_
  refine l_iadd C0 dL_law_409 ?_
  refine l_sld (j := i + 1) C0 hL (by rw [show (1 : Int32) = nI 1 from rfl, nI_add]) (by omega) dL_law_410 ?_
  refine l_aload_n C0 dL_law_411 0 rfl ?_
  refine l_iload_n C0 dL_law_412 3 rfl ?_
  refine l_iconst C0 dL_law_413 (v := 2) rfl ?_
  refine l_iadd C0 dL_law_414 ?_
  refine l_sld (j := i + 2) C0 hL (by rw [show (2 : Int32) = nI 2 from rfl, nI_add]) (by omega) dL_law_415 ?_
  refine l_aload_n C0 dL_law_416 0 rfl ?_
  refine l_iload_n C0 dL_law_417 3 rfl ?_
  refine l_iconst C0 dL_law_418 (v := 3) rfl ?_
  refine l_iadd C0 dL_law_419 ?_
  refine l_sld (j := i + 3) C0 hL (by rw [show (3 : Int32) = nI 3 from rfl, nI_add]) (by omega) dL_law_420 ?_
  refine l_callV (As := [_, _, _]) C0 hK c_X5_of rfl l_L_51 rfl rfl rfl (Nat.le_of_ble_eq_true rfl) dL_law_421 (t_X5_of (d := 8) hW hR.1) (fun r1 u1 q1 => ?_)
  obtain ⟨e1, rfl⟩ := q1
  cases e1
  refine l_icmp_eq (tgt := 715) C0 dL_law_424 (by decide) ?_
  exact hx _ ⟨N, n, h, sv, sl, len, P, hW, hC, hR⟩
theorem lc_why (C0 : lw_At p s m meth c b L xs) (hK : va_K G.2.1 mcl (mTy G) s) (hL : L ≤ 2048) {i : Nat} (hi : i + 3 < L) (hI : Inv S) (hx : ∀ u, Inv u → LW p e s m below meth c G b 715 [(0, .ref b), (1, rv G 0), (2, rv G 190), (3, .int (nI i))] [] u) : LW p e s m below meth c G b 452 [(0, .ref b), (1, rv G 0), (2, rv G 190), (3, .int (nI i))] [] S := by
  obtain ⟨N, n, h, sv, sl, len, P, hW, hC, hR⟩ := hI
  refine l_aload_n C0 dL_law_452 1 rfl ?_
  refine l_aload_n C0 dL_law_453 0 rfl ?_
  refine l_iload_n C0 dL_law_454 3 rfl ?_
  refine l_iconst C0 dL_law_455 (v := 1) rfl ?_
  refine l_iadd C0 dL_law_456 ?_
  refine l_sld (j := i + 1) C0 hL (by rw [show (1 : Int32) = nI 1 from rfl, nI_add]) (by omega) dL_law_457 ?_
  refine l_aload_n C0 dL_law_458 0 rfl ?_
  refine l_iload_n C0 dL_law_459 3 rfl ?_
  refine l_iconst C0 dL_law_460 (v := 2) rfl ?_
  refine l_iadd C0 dL_law_461 ?_
  refine l_sld (j := i + 2) C0 hL (by rw [show (2 : Int32) = nI 2 from rfl, nI_add]) (by omega) dL_law_462 ?_
  refine l_aload_n C0 dL_law_463 0 rfl ?_
  refine l_iload_n C0 dL_law_464 3 rfl ?_
  refine l_iconst C0 dL_law_465 (v := 3) rfl ?_
  refine l_iadd C0 dL_law_466 ?_
  refine l_sld (j := i + 3) C0 hL (by rw [show (3 : Int32) = nI 3 from rfl, nI_add]) (by omega) dL_law_467 ?_
  refine l_callV (As := [_, _, _]) C0 hK c_X4_why rfl l_L_56 rfl rfl rfl (Nat.le_of_ble_eq_true rfl) dL_law_468 (t_X4_why (d := 9) hW hC.1) (fun r0 u0 q0 => ?_)
  obtain ⟨e0, rfl⟩ := q0
  cases e0
  refine l_aload_n C0 dL_law_471 2 rfl ?_
  refine l_aload_n C0 dL_law_472 0 rfl ?_
  refine l_iload_n C0 dL_law_473 3 rfl ?_
  refine l_iconst C0 dL_law_474 (v := 1) rfl ?_
  refine l_iadd C0 dL_law_475 ?_
  refine l_sld (j := i + 1) C0 hL (by rw [show (1 : Int32) = nI 1 from rfl, nI_add]) (by omega) dL_law_476 ?_
  refine l_aload_n C0 dL_law_477 0 rfl ?_
  refine l_iload_n C0 dL_law_478 3 rfl ?_
  refine l_iconst C0 dL_law_479 (v := 2) rfl ?_
  refine l_iadd C0 dL_law_480 ?_
  refine l_sld (j := i + 2) C0 hL (by rw [show (2 : Int32) = nI 2 from rfl, nI_add]) (by omega) dL_law_481 ?_
  refine l_aload_n C0 dL_law_482 0 rfl ?_
  refine l_iload_n C0 dL_law_483 3 rfl ?_
  refine l_iconst C0 dL_law_484 (v := 3) rfl ?_
  refine l_iadd C0 dL_law_485 ?_
  refine l_sld (j := i + 3) C0 hL (by rw [show (3 : Int32) = nI 3 from rfl, nI_add]) (by omega) dL_law_486 ?_
  refine l_callV (As := [_, _, _]) C0 hK c_X5_why rfl l_L_59 rfl rfl rfl (Nat.le_of_ble_eq_true rfl) dL_law_487 (t_X5_why (d := 8) hW hR.1) (fun r1 u1 q1 => ?_)
  obtain ⟨e1, rfl⟩ := q1
  cases e1
  refine l_icmp_eq (tgt := 715) C0 dL_law_490 (by decide) ?_
  exact hx _ ⟨N, n, h, sv, sl, len, P, hW, hC, hR⟩
theorem lc_waitsFor (C0 : lw_At p s m meth c b L xs) (hK : va_K G.2.1 mcl (mTy G) s) (hL : L ≤ 2048) {i : Nat} (hi : i + 3 < L) (hI : Inv S) (hx : ∀ u, Inv u → LW p e s m below meth c G b 715 [(0, .ref b), (1, rv G 0), (2, rv G 190), (3, .int (nI i))] [] u) : LW p e s m below meth c G b 495 [(0, .ref b), (1, rv G 0), (2, rv G 190), (3, .int (nI i))] [] S := by
  obtain ⟨N, n, h, sv, sl, len, P, hW, hC, hR⟩ := hI
  refine l_aload_n C0 dL_law_495 1 rfl ?_
  refine l_aload_n C0 dL_law_496 0 rfl ?_
  refine l_iload_n C0 dL_law_497 3 rfl ?_
  refine l_iconst C0 dL_law_498 (v := 1) rfl ?_
  refine l_iadd C0 dL_law_499 ?_
  refine l_sld (j := i + 1) C0 hL (by rw [show (1 : Int32) = nI 1 from rfl, nI_add]) (by omega) dL_law_500 ?_
  refine l_callV (As := [_]) C0 hK c_X4_waitsFor rfl l_L_60 rfl rfl rfl (Nat.le_of_ble_eq_true rfl) dL_law_501 (t_X4_waitsFor (d := 9) hW hC.1) (fun r0 u0 q0 => ?_)
  obtain ⟨e0, rfl⟩ := q0
  cases e0
  refine l_aload_n C0 dL_law_504 2 rfl ?_
  refine l_aload_n C0 dL_law_505 0 rfl ?_
  refine l_iload_n C0 dL_law_506 3 rfl ?_
  refine l_iconst C0 dL_law_507 (v := 1) rfl ?_
  refine l_iadd C0 dL_law_508 ?_
  refine l_sld (j := i + 1) C0 hL (by rw [show (1 : Int32) = nI 1 from rfl, nI_add]) (by omega) dL_law_509 ?_
  refine l_callV (As := [_]) C0 hK c_X5_waitsFor rfl l_L_63 rfl rfl rfl (Nat.le_of_ble_eq_true rfl) dL_law_510 (t_X5_waitsFor (d := 8) hW hR.1) (fun r1 u1 q1 => ?_)
  obtain ⟨e1, rfl⟩ := q1
  cases e1
  refine l_icmp_eq (tgt := 715) C0 dL_law_513 (by decide) ?_
  exact hx _ ⟨N, n, h, sv, sl, len, P, hW, hC, hR⟩
theorem lc_count (C0 : lw_At p s m meth c b L xs) (hK : va_K G.2.1 mcl (mTy G) s) (hL : L ≤ 2048) {i : Nat} (hi : i + 3 < L) (hI : Inv S) (hx : ∀ u, Inv u → LW p e s m below meth c G b 715 [(0, .ref b), (1, rv G 0), (2, rv G 190), (3, .int (nI i))] [] u) : LW p e s m below meth c G b 429 [(0, .ref b), (1, rv G 0), (2, rv G 190), (3, .int (nI i))] [] S := by
  obtain ⟨N, n, h, sv, sl, len, P, hW, hC, hR⟩ := hI
  have en : S 19 2 = nI n := by obtain ⟨o, -, ⟨-, z⟩, -⟩ := hC.2.1; exact z
  have el : S 185 1 = nI len := hC.2.2.2.1.1
  refine l_aload_n C0 dL_law_429 1 rfl ?_
  refine l_aload_n C0 dL_law_430 0 rfl ?_
  refine l_iload_n C0 dL_law_431 3 rfl ?_
  refine l_iconst C0 dL_law_432 (v := 1) rfl ?_
  refine l_iadd C0 dL_law_433 ?_
  refine l_sld (j := i + 1) C0 hL (by rw [show (1 : Int32) = nI 1 from rfl, nI_add]) (by omega) dL_law_434 ?_
  refine l_callV (As := [_]) C0 hK c_X4_count rfl l_L_52 rfl rfl rfl (Nat.le_of_ble_eq_true rfl) dL_law_435 (t_X4_count (d := 9) hW hC.1 en el) (fun r0 u0 q0 => ?_)
  obtain ⟨e0, rfl⟩ := q0
  cases e0
  refine l_aload_n C0 dL_law_438 2 rfl ?_
  refine l_aload_n C0 dL_law_439 0 rfl ?_
  refine l_iload_n C0 dL_law_440 3 rfl ?_
  refine l_iconst C0 dL_law_441 (v := 1) rfl ?_
  refine l_iadd C0 dL_law_442 ?_
  refine l_sld (j := i + 1) C0 hL (by rw [show (1 : Int32) = nI 1 from rfl, nI_add]) (by omega) dL_law_443 ?_
  refine l_callV (As := [_]) C0 hK c_X5_count rfl l_L_55 rfl rfl rfl (Nat.le_of_ble_eq_true rfl) dL_law_444 (t_X5_count (d := 8) hW hR.1 hR.2.1.1.1 hR.2.2.2.1.1) (fun r1 u1 q1 => ?_)
  obtain ⟨e1, rfl⟩ := q1
  cases e1
  refine l_icmp_eq (tgt := 715) C0 dL_law_447 (by decide) ?_
  exact hx _ ⟨N, n, h, sv, sl, len, P, hW, hC, hR⟩
theorem lc_opensIn (C0 : lw_At p s m meth c b L xs) (hK : va_K G.2.1 mcl (mTy G) s) (hL : L ≤ 2048) {i : Nat} (hi : i + 3 < L) (hI : Inv S) (hx : ∀ u, Inv u → LW p e s m below meth c G b 715 [(0, .ref b), (1, rv G 0), (2, rv G 190), (3, .int (nI i))] [] u) : LW p e s m below meth c G b 518 [(0, .ref b), (1, rv G 0), (2, rv G 190), (3, .int (nI i))] [] S := by
  obtain ⟨N, n, h, sv, sl, len, P, hW, hC, hR⟩ := hI
  refine l_aload_n C0 dL_law_518 1 rfl ?_
  refine l_aload_n C0 dL_law_519 0 rfl ?_
  refine l_iload_n C0 dL_law_520 3 rfl ?_
  refine l_iconst C0 dL_law_521 (v := 1) rfl ?_
  refine l_iadd C0 dL_law_522 ?_
  refine l_sld (j := i + 1) C0 hL (by rw [show (1 : Int32) = nI 1 from rfl, nI_add]) (by omega) dL_law_523 ?_
  refine l_callV (As := [_]) C0 hK c_X4_opensIn rfl l_L_64 rfl rfl rfl (Nat.le_of_ble_eq_true rfl) dL_law_524 (t_X4_opensIn (d := 6) hW hC.1) (fun r0 u0 q0 => ?_)
  obtain ⟨e0, f1⟩ := q0
  cases e0
  have hC1 : CI u0 N n h sv sl len P := ⟨hC.1.off hW.cn.2 (fun c c1 c2 => f1 c (by omega) (by omega) (by omega)), hC.2.1.off (fun c c1 c2 => f1 c (by omega) (by omega) (by omega)), hC.2.2.1.off (fun c c1 c2 => f1 c (by omega) (by omega) (by omega)), hC.2.2.2.off (f1 185 (by omega) (by omega) (by omega)) (f1 186 (by omega) (by omega) (by omega))⟩
  have hR1 : RI u0 N n h sv sl len P := RI.off hR (fun c hc => f1 c (by omega) (by omega) (by omega))
  refine l_aload_n C0 dL_law_527 2 rfl ?_
  refine l_aload_n C0 dL_law_528 0 rfl ?_
  refine l_iload_n C0 dL_law_529 3 rfl ?_
  refine l_iconst C0 dL_law_530 (v := 1) rfl ?_
  refine l_iadd C0 dL_law_531 ?_
  refine l_sld (j := i + 1) C0 hL (by rw [show (1 : Int32) = nI 1 from rfl, nI_add]) (by omega) dL_law_532 ?_
  refine l_callV (As := [_]) C0 hK c_X5_opensIn rfl l_L_67 rfl rfl rfl (Nat.le_of_ble_eq_true rfl) dL_law_533 (t_X5_opensIn (d := 5) hW hR1.1) (fun r1 u1 q1 => ?_)
  obtain ⟨e1, k1, f2⟩ := q1
  cases e1
  refine l_icmp_eq (tgt := 715) C0 dL_law_536 (by decide) ?_
  exact hx _ ⟨N, n, h, sv, sl, len, P, hW, hC1.off hW (fun x hx => f2 x (by omega) (by omega)), k1, hR1.2.1.same (by rw [f2 190 (by omega) (by omega)]) (f2 192 (by omega) (by omega)), hR1.2.2.1.same (f2 196 (by omega) (by omega)) (f2 195 (by omega) (by omega)), hR1.2.2.2.same (by rw [f2 190 (by omega) (by omega)]) (f2 197 (by omega) (by omega))⟩
theorem lc_couldHike (C0 : lw_At p s m meth c b L xs) (hK : va_K G.2.1 mcl (mTy G) s) (hL : L ≤ 2048) {i : Nat} (hi : i + 3 < L) (hI : Inv S) (hx : ∀ u, Inv u → LW p e s m below meth c G b 715 [(0, .ref b), (1, rv G 0), (2, rv G 190), (3, .int (nI i))] [] u) : LW p e s m below meth c G b 541 [(0, .ref b), (1, rv G 0), (2, rv G 190), (3, .int (nI i))] [] S := by
  obtain ⟨N, n, h, sv, sl, len, P, hW, hC, hR⟩ := hI
  refine l_aload_n C0 dL_law_541 1 rfl ?_
  refine l_aload_n C0 dL_law_542 0 rfl ?_
  refine l_iload_n C0 dL_law_543 3 rfl ?_
  refine l_iconst C0 dL_law_544 (v := 1) rfl ?_
  refine l_iadd C0 dL_law_545 ?_
  refine l_sld (j := i + 1) C0 hL (by rw [show (1 : Int32) = nI 1 from rfl, nI_add]) (by omega) dL_law_546 ?_
  refine l_callV (As := [_]) C0 hK c_X4_couldHike rfl l_L_68 rfl rfl rfl (Nat.le_of_ble_eq_true rfl) dL_law_547 (t_X4_couldHike (d := 6) hW hC.1) (fun r0 u0 q0 => ?_)
  obtain ⟨e0, f1⟩ := q0
  cases e0
  have hC1 : CI u0 N n h sv sl len P := ⟨hC.1.off hW.cn.2 (fun c c1 c2 => f1 c (by omega) (by omega) (by omega)), hC.2.1.off (fun c c1 c2 => f1 c (by omega) (by omega) (by omega)), hC.2.2.1.off (fun c c1 c2 => f1 c (by omega) (by omega) (by omega)), hC.2.2.2.off (f1 185 (by omega) (by omega) (by omega)) (f1 186 (by omega) (by omega) (by omega))⟩
  have hR1 : RI u0 N n h sv sl len P := RI.off hR (fun c hc => f1 c (by omega) (by omega) (by omega))
  refine l_aload_n C0 dL_law_550 2 rfl ?_
  refine l_aload_n C0 dL_law_551 0 rfl ?_
  refine l_iload_n C0 dL_law_552 3 rfl ?_
  refine l_iconst C0 dL_law_553 (v := 1) rfl ?_
  refine l_iadd C0 dL_law_554 ?_
  refine l_sld (j := i + 1) C0 hL (by rw [show (1 : Int32) = nI 1 from rfl, nI_add]) (by omega) dL_law_555 ?_
  refine l_callV (As := [_]) C0 hK c_X5_couldHike rfl l_L_71 rfl rfl rfl (Nat.le_of_ble_eq_true rfl) dL_law_556 (t_X5_couldHike (d := 5) hW hR1.1) (fun r1 u1 q1 => ?_)
  obtain ⟨e1, k1, f2⟩ := q1
  cases e1
  refine l_icmp_eq (tgt := 715) C0 dL_law_559 (by decide) ?_
  exact hx _ ⟨N, n, h, sv, sl, len, P, hW, hC1.off hW (fun x hx => f2 x (by omega) (by omega)), k1, hR1.2.1.same (by rw [f2 190 (by omega) (by omega)]) (f2 192 (by omega) (by omega)), hR1.2.2.1.same (f2 196 (by omega) (by omega)) (f2 195 (by omega) (by omega)), hR1.2.2.2.same (by rw [f2 190 (by omega) (by omega)]) (f2 197 (by omega) (by omega))⟩
theorem lc_put (C0 : lw_At p s m meth c b L xs) (hK : va_K G.2.1 mcl (mTy G) s) (hL : L ≤ 2048) {i : Nat} (hi : i + 3 < L) (hI : Inv S) (hx : ∀ u, Inv u → LW p e s m below meth c G b 715 [(0, .ref b), (1, rv G 0), (2, rv G 190), (3, .int (nI i))] [] u) : LW p e s m below meth c G b 564 [(0, .ref b), (1, rv G 0), (2, rv G 190), (3, .int (nI i))] [] S := by
  obtain ⟨N, n, h, sv, sl, len, P, hW, hC, hR⟩ := hI
  refine l_aload_n C0 dL_law_564 1 rfl ?_
  refine l_aload_n C0 dL_law_565 0 rfl ?_
  refine l_iload_n C0 dL_law_566 3 rfl ?_
  refine l_iconst C0 dL_law_567 (v := 1) rfl ?_
  refine l_iadd C0 dL_law_568 ?_
  refine l_sld (j := i + 1) C0 hL (by rw [show (1 : Int32) = nI 1 from rfl, nI_add]) (by omega) dL_law_569 ?_
  refine l_i2l C0 dL_law_570 ?_
  refine l_bipush C0 dL_law_571 (v := 32) (by decide +kernel) ?_
  refine l_lshl C0 dL_law_573 ?_
  refine l_aload_n C0 dL_law_574 0 rfl ?_
  refine l_iload_n C0 dL_law_575 3 rfl ?_
  refine l_iconst C0 dL_law_576 (v := 2) rfl ?_
  refine l_iadd C0 dL_law_577 ?_
  refine l_sld (j := i + 2) C0 hL (by rw [show (2 : Int32) = nI 2 from rfl, nI_add]) (by omega) dL_law_578 ?_
  refine l_i2l C0 dL_law_579 ?_
  refine l_ldc2 C0 k_L_72 dL_law_580 ?_
  refine l_land C0 dL_law_583 ?_
  refine l_lor C0 dL_law_584 ?_
  refine l_callV (As := [_]) C0 hK c_X4_put rfl l_L_74 rfl rfl rfl (Nat.le_of_ble_eq_true rfl) dL_law_585 (t_X4_put (d := 10) hC.2.2.2) (fun r0 u0 q0 => ?_)
  obtain ⟨e0, g1, f1⟩ := q0
  cases e0
  have hC1 : CI u0 N n h sv sl _ _ := ⟨hC.1.off hW.cn.2 (fun c c1 c2 => f1 c (by omega) (by omega)), hC.2.1.off (fun c c1 c2 => f1 c (by omega) (by omega)), hC.2.2.1.off (fun c c1 c2 => f1 c (by omega) (by omega)), g1⟩
  have hR1 : RI u0 N n h sv sl len P := RI.off hR (fun c hc => f1 c (by omega) (by omega))
  refine l_aload_n C0 dL_law_588 2 rfl ?_
  refine l_aload_n C0 dL_law_589 0 rfl ?_
  refine l_iload_n C0 dL_law_590 3 rfl ?_
  refine l_iconst C0 dL_law_591 (v := 1) rfl ?_
  refine l_iadd C0 dL_law_592 ?_
  refine l_sld (j := i + 1) C0 hL (by rw [show (1 : Int32) = nI 1 from rfl, nI_add]) (by omega) dL_law_593 ?_
  refine l_i2l C0 dL_law_594 ?_
  refine l_bipush C0 dL_law_595 (v := 32) (by decide +kernel) ?_
  refine l_lshl C0 dL_law_597 ?_
  refine l_aload_n C0 dL_law_598 0 rfl ?_
  refine l_iload_n C0 dL_law_599 3 rfl ?_
  refine l_iconst C0 dL_law_600 (v := 2) rfl ?_
  refine l_iadd C0 dL_law_601 ?_
  refine l_sld (j := i + 2) C0 hL (by rw [show (2 : Int32) = nI 2 from rfl, nI_add]) (by omega) dL_law_602 ?_
  refine l_i2l C0 dL_law_603 ?_
  refine l_ldc2 C0 k_L_72 dL_law_604 ?_
  refine l_land C0 dL_law_607 ?_
  refine l_lor C0 dL_law_608 ?_
  refine l_callV (As := [_]) C0 hK c_X5_put rfl l_L_78 rfl rfl rfl (Nat.le_of_ble_eq_true rfl) dL_law_609 (t_X5_put (d := 10) hR1.2.2.2) (fun r1 u1 q1 => ?_)
  obtain ⟨e1, k1, f2, f3⟩ := q1
  cases e1
  refine l_icmp_eq (tgt := 715) C0 dL_law_612 (by decide) ?_
  exact hx _ ⟨N, n, h, sv, sl, _, _, hW, hC1.off hW (fun x hx => f2 x (by omega) (by omega) (by omega)), by rw [f2 191 (by omega) (by omega) (by omega)]; exact hR1.1, hR1.2.1.same (f3 6 (by omega)) (f2 192 (by omega) (by omega) (by omega)), hR1.2.2.1.same (f2 196 (by omega) (by omega) (by omega)) (f2 195 (by omega) (by omega) (by omega)), k1⟩
theorem lc_wipe (C0 : lw_At p s m meth c b L xs) (hK : va_K G.2.1 mcl (mTy G) s) (hL : L ≤ 2048) {i : Nat} (hi : i + 3 < L) (hI : Inv S) (hx : ∀ u, Inv u → LW p e s m below meth c G b 715 [(0, .ref b), (1, rv G 0), (2, rv G 190), (3, .int (nI i))] [] u) : LW p e s m below meth c G b 617 [(0, .ref b), (1, rv G 0), (2, rv G 190), (3, .int (nI i))] [] S := by
  obtain ⟨N, n, h, sv, sl, len, P, hW, hC, hR⟩ := hI
  refine l_aload_n C0 dL_law_617 1 rfl ?_
  refine l_callV (As := []) C0 hK c_X4_wipe rfl l_L_79 rfl rfl rfl (Nat.le_of_ble_eq_true rfl) dL_law_618 (t_X4_wipe (d := 11) hC.2.2.2) (fun r0 u0 q0 => ?_)
  obtain ⟨e0, g1, f1⟩ := q0
  cases e0
  have hC1 : CI u0 N n h sv sl _ _ := ⟨hC.1.off hW.cn.2 (fun c c1 c2 => f1 c (by omega)), hC.2.1.off (fun c c1 c2 => f1 c (by omega)), hC.2.2.1.off (fun c c1 c2 => f1 c (by omega)), g1⟩
  have hR1 : RI u0 N n h sv sl len P := RI.off hR (fun c hc => f1 c (by omega))
  refine l_aload_n C0 dL_law_621 2 rfl ?_
  refine l_callV (As := []) C0 hK c_X5_wipe rfl l_L_83 rfl rfl rfl (Nat.le_of_ble_eq_true rfl) dL_law_622 (t_X5_wipe (d := 11) hR1.2.2.2) (fun r1 u1 q1 => ?_)
  obtain ⟨e1, k1, f2, f3⟩ := q1
  cases e1
  refine l_icmp_eq (tgt := 715) C0 dL_law_625 (by decide) ?_
  exact hx _ ⟨N, n, h, sv, sl, _, _, hW, hC1.off hW (fun x hx => f2 x (by omega)), by rw [f2 191 (by omega)]; exact hR1.1, hR1.2.1.same (f3 6 (by omega)) (f2 192 (by omega)), hR1.2.2.1.same (f2 196 (by omega)) (f2 195 (by omega)), k1⟩
theorem lc_fault (C0 : lw_At p s m meth c b L xs) (hK : va_K G.2.1 mcl (mTy G) s) (hL : L ≤ 2048) {i : Nat} (hi : i + 3 < L) (hI : Inv S) (hx : ∀ u, Inv u → LW p e s m below meth c G b 715 [(0, .ref b), (1, rv G 0), (2, rv G 190), (3, .int (nI i))] [] u) : LW p e s m below meth c G b 630 [(0, .ref b), (1, rv G 0), (2, rv G 190), (3, .int (nI i))] [] S := by
  obtain ⟨N, n, h, sv, sl, len, P, hW, hC, hR⟩ := hI
  refine l_aload_n C0 dL_law_630 1 rfl ?_
  refine l_callV (As := []) C0 hK c_X4_fault rfl l_L_84 rfl rfl rfl (Nat.le_of_ble_eq_true rfl) dL_law_631 (t_X4_fault (d := 5) hC.2.2.2) (fun r0 u0 q0 => ?_)
  obtain ⟨e0, g1, f1⟩ := q0
  cases e0
  have hC1 : CI u0 N n h sv sl _ _ := ⟨hC.1.off hW.cn.2 (fun c c1 c2 => f1 c (by omega)), hC.2.1.off (fun c c1 c2 => f1 c (by omega)), hC.2.2.1.off (fun c c1 c2 => f1 c (by omega)), g1⟩
  have hR1 : RI u0 N n h sv sl len P := RI.off hR (fun c hc => f1 c (by omega))
  refine l_aload_n C0 dL_law_634 2 rfl ?_
  refine l_callV (As := []) C0 hK c_X5_fault rfl l_L_87 rfl rfl rfl (Nat.le_of_ble_eq_true rfl) dL_law_635 (t_X5_fault (d := 2) hR1.2.2.2) (fun r1 u1 q1 => ?_)
  obtain ⟨e1, k1, f2⟩ := q1
  cases e1
  refine l_icmp_eq (tgt := 715) C0 dL_law_638 (by decide) ?_
  exact hx _ ⟨N, n, h, sv, sl, _, _, hW, hC1.off hW (fun x hx => f2.1 x (by omega)), by rw [f2.1 191 (by omega)]; exact hR1.1, hR1.2.1.same (f2.2 6 (by omega)) (f2.1 192 (by omega)), hR1.2.2.1.same (f2.1 196 (by omega)) (f2.1 195 (by omega)), k1⟩
theorem lc_carryOut (C0 : lw_At p s m meth c b L xs) (hK : va_K G.2.1 mcl (mTy G) s) (hL : L ≤ 2048) {i : Nat} (hi : i + 3 < L) (hI : Inv S) (hx : ∀ u, Inv u → LW p e s m below meth c G b 715 [(0, .ref b), (1, rv G 0), (2, rv G 190), (3, .int (nI i))] [] u) : LW p e s m below meth c G b 643 [(0, .ref b), (1, rv G 0), (2, rv G 190), (3, .int (nI i))] [] S := by
  obtain ⟨N, n, h, sv, sl, len, P, hW, hC, hR⟩ := hI
  refine l_aload_n C0 dL_law_643 1 rfl ?_
  refine l_callV (As := []) C0 hK c_X4_carryOut rfl l_L_88 rfl rfl rfl (Nat.le_of_ble_eq_true rfl) dL_law_644 (t_X4_carryOut (d := 4) hW hC.1 hC.2.1 hC.2.2.2) (fun r0 u0 q0 => ?_)
  obtain ⟨e0, g1, g2, g3, f1⟩ := q0
  cases e0
  have hW1 : WN (if carOk P len = true then (cyN P len 80 0 N).2 else N) := by split <;> first | exact wn_cy 80 0 N hW | exact hW
  have hC1 : CI u0 _ _ _ sv sl _ P := ⟨g1, g2, hC.2.2.1.off (fun c c1 c2 => f1 c (by omega) (by omega)), g3⟩
  have hR1 : RI u0 N n h sv sl len P := RI.off hR (fun c hc => f1 c (by omega) (by omega))
  refine l_aload_n C0 dL_law_647 2 rfl ?_
  refine l_callV (As := []) C0 hK c_X5_carryOut rfl l_L_91 rfl rfl rfl (Nat.le_of_ble_eq_true rfl) dL_law_648 (t_X5_carryOut (d := 2) hW hR1.1 hR1.2.1 hR1.2.2.2) (fun r1 u1 q1 => ?_)
  obtain ⟨e1, k1, k2, k3, f2⟩ := q1
  cases e1
  refine l_icmp_eq (tgt := 715) C0 dL_law_651 (by decide) ?_
  exact hx _ ⟨_, _, _, sv, sl, _, P, hW1, hC1.off hW1 (fun x hx => f2 x (by omega) (by omega) (by omega) (by omega)), k1, k2, hR1.2.2.1.same (f2 196 (by omega) (by omega) (by omega) (by omega)) (f2 195 (by omega) (by omega) (by omega) (by omega)), k3⟩
end CALLS
