section S
variable {g : aG} {d : Nat} {I : Nat → Nat → Int32} {J : Nat → Nat → Int64} {n w : Nat} {Q : aO → aS → Prop}
def mL_law_ : aM := (yL_law_, cL_law_, 8, some .boolean, [])
theorem rdX {k : Nat} (h : k < 2 ^ 31) : gx g (nI k).toNatClampNeg = gx g k := by rw [nI_clamp h]
theorem lg_cc {a : Int64} : lg_cmp a a = 0 := by unfold lg_cmp; simp
theorem lw_0 {x : gX} {q : Nat} {v5 v6 v7 : Value} (hN : aNx g) (hL : 10 * q + 10 ≤ gL g) (hL2 : gL g ≤ 5120) (hx : gOk x) (hc : cI x I) (hm : mI x I) (hn : n + 1 ≤ 600000 ∧ w + 6 ≤ 7000000) (hK : ∀ (x' : gX) (I' : Nat → Nat → Int32) (J' : Nat → Nat → Int64) (n' w' : Nat) (v5 v6 v7 : Value) (ll : List (Nat × Int64)), gOk x' → cI x' I' → mI x' I' → n' ≤ n + 1 → w' ≤ w + 6 → Rn g (d + 40) mL_law_ 2692 [.ref 0, .ref 1, .ref 534, .ref 560, .int (nI (10 * q)), v5, v6, v7] ll [] (Z I' J' n' w') Q) : Rn g (d + 40) mL_law_ 216 [.ref 0, .ref 1, .ref 534, .ref 560, .int (nI (10 * q)), v5, v6, v7] [] [] (Z I J n w) Q := by
  obtain ⟨x1, v1, hg1, hC, hM⟩ := pr_feed (x := gx g (10 * q + 1)) (y := gx g (10 * q + 2)) (z := gx g (10 * q + 3)) (u := gx g (10 * q + 4)) (v := gx g (10 * q + 5)) hx
  refine s_aload_n (pc := 216) (i := 1) dL_law__216 rfl rfl ?_
  refine s_aload_n (pc := 217) (i := 0) dL_law__217 rfl rfl ?_
  refine s_iload (pc := 218) (i := 4) dL_law__218 rfl ?_
  refine m_ic (pc := 220) (v := 1) dL_law__220 rfl ?_
  refine s_iadd (pc := 221) dL_law__221 ?_
  refine m_nm (v' := nI ((10 * q) + 1)) (nI_add (10 * q) 1) ?_
  refine s_sld (pc := 222) dL_law__222 (vp_in_nI (n := (10 * q) + 1) (by omega) (by omega)) ?_
  refine m_nm (v' := gx g (10 * q + 1)) (rdX (by omega)) ?_
  refine s_aload_n (pc := 223) (i := 0) dL_law__223 rfl rfl ?_
  refine s_iload (pc := 224) (i := 4) dL_law__224 rfl ?_
  refine m_ic (pc := 226) (v := 2) dL_law__226 rfl ?_
  refine s_iadd (pc := 227) dL_law__227 ?_
  refine m_nm (v' := nI ((10 * q) + 2)) (nI_add (10 * q) 2) ?_
  refine s_sld (pc := 228) dL_law__228 (vp_in_nI (n := (10 * q) + 2) (by omega) (by omega)) ?_
  refine m_nm (v' := gx g (10 * q + 2)) (rdX (by omega)) ?_
  refine s_aload_n (pc := 229) (i := 0) dL_law__229 rfl rfl ?_
  refine s_iload (pc := 230) (i := 4) dL_law__230 rfl ?_
  refine m_ic (pc := 232) (v := 3) dL_law__232 rfl ?_
  refine s_iadd (pc := 233) dL_law__233 ?_
  refine m_nm (v' := nI ((10 * q) + 3)) (nI_add (10 * q) 3) ?_
  refine s_sld (pc := 234) dL_law__234 (vp_in_nI (n := (10 * q) + 3) (by omega) (by omega)) ?_
  refine m_nm (v' := gx g (10 * q + 3)) (rdX (by omega)) ?_
  refine s_aload_n (pc := 235) (i := 0) dL_law__235 rfl rfl ?_
  refine s_iload (pc := 236) (i := 4) dL_law__236 rfl ?_
  refine m_ic (pc := 238) (v := 4) dL_law__238 rfl ?_
  refine s_iadd (pc := 239) dL_law__239 ?_
  refine m_nm (v' := nI ((10 * q) + 4)) (nI_add (10 * q) 4) ?_
  refine s_sld (pc := 240) dL_law__240 (vp_in_nI (n := (10 * q) + 4) (by omega) (by omega)) ?_
  refine m_nm (v' := gx g (10 * q + 4)) (rdX (by omega)) ?_
  refine s_aload_n (pc := 241) (i := 0) dL_law__241 rfl rfl ?_
  refine s_iload (pc := 242) (i := 4) dL_law__242 rfl ?_
  refine m_ic (pc := 244) (v := 5) dL_law__244 rfl ?_
  refine s_iadd (pc := 245) dL_law__245 ?_
  refine m_nm (v' := nI ((10 * q) + 5)) (nI_add (10 * q) 5) ?_
  refine s_sld (pc := 246) dL_law__246 (vp_in_nI (n := (10 * q) + 5) (by omega) (by omega)) ?_
  refine m_nm (v' := gx g (10 * q + 5)) (rdX (by omega)) ?_
  refine m_v5 (pc := 247) dL_law__247 lk_L_123 ok_X11_feed (rcO o_1 (by decide) rfl) rfl rfl (hC g (d + 38) I J n w _ hc (fun I1 hc1 f1 => kt_s ?_))
  refine s_aload_n (pc := 250) (i := 2) dL_law__250 rfl rfl ?_
  refine s_aload_n (pc := 251) (i := 0) dL_law__251 rfl rfl ?_
  refine s_iload (pc := 252) (i := 4) dL_law__252 rfl ?_
  refine m_ic (pc := 254) (v := 1) dL_law__254 rfl ?_
  refine s_iadd (pc := 255) dL_law__255 ?_
  refine m_nm (v' := nI ((10 * q) + 1)) (nI_add (10 * q) 1) ?_
  refine s_sld (pc := 256) dL_law__256 (vp_in_nI (n := (10 * q) + 1) (by omega) (by omega)) ?_
  refine m_nm (v' := gx g (10 * q + 1)) (rdX (by omega)) ?_
  refine s_aload_n (pc := 257) (i := 0) dL_law__257 rfl rfl ?_
  refine s_iload (pc := 258) (i := 4) dL_law__258 rfl ?_
  refine m_ic (pc := 260) (v := 2) dL_law__260 rfl ?_
  refine s_iadd (pc := 261) dL_law__261 ?_
  refine m_nm (v' := nI ((10 * q) + 2)) (nI_add (10 * q) 2) ?_
  refine s_sld (pc := 262) dL_law__262 (vp_in_nI (n := (10 * q) + 2) (by omega) (by omega)) ?_
  refine m_nm (v' := gx g (10 * q + 2)) (rdX (by omega)) ?_
  refine s_aload_n (pc := 263) (i := 0) dL_law__263 rfl rfl ?_
  refine s_iload (pc := 264) (i := 4) dL_law__264 rfl ?_
  refine m_ic (pc := 266) (v := 3) dL_law__266 rfl ?_
  refine s_iadd (pc := 267) dL_law__267 ?_
  refine m_nm (v' := nI ((10 * q) + 3)) (nI_add (10 * q) 3) ?_
  refine s_sld (pc := 268) dL_law__268 (vp_in_nI (n := (10 * q) + 3) (by omega) (by omega)) ?_
  refine m_nm (v' := gx g (10 * q + 3)) (rdX (by omega)) ?_
  refine s_aload_n (pc := 269) (i := 0) dL_law__269 rfl rfl ?_
  refine s_iload (pc := 270) (i := 4) dL_law__270 rfl ?_
  refine m_ic (pc := 272) (v := 4) dL_law__272 rfl ?_
  refine s_iadd (pc := 273) dL_law__273 ?_
  refine m_nm (v' := nI ((10 * q) + 4)) (nI_add (10 * q) 4) ?_
  refine s_sld (pc := 274) dL_law__274 (vp_in_nI (n := (10 * q) + 4) (by omega) (by omega)) ?_
  refine m_nm (v' := gx g (10 * q + 4)) (rdX (by omega)) ?_
  refine s_aload_n (pc := 275) (i := 0) dL_law__275 rfl rfl ?_
  refine s_iload (pc := 276) (i := 4) dL_law__276 rfl ?_
  refine m_ic (pc := 278) (v := 5) dL_law__278 rfl ?_
  refine s_iadd (pc := 279) dL_law__279 ?_
  refine m_nm (v' := nI ((10 * q) + 5)) (nI_add (10 * q) 5) ?_
  refine s_sld (pc := 280) dL_law__280 (vp_in_nI (n := (10 * q) + 5) (by omega) (by omega)) ?_
  refine m_nm (v' := gx g (10 * q + 5)) (rdX (by omega)) ?_
  refine m_v5 (pc := 281) dL_law__281 lk_L_127 ok_X12_feed (rcO o_534 (by decide) rfl) rfl rfl (hM g (d + 39) I1 J n w _ (mI_c hm f1) (fun I2 hm2 f2 => kt_s ?_))
  refine s_iceq (pc := 284) (tgt := 2692) dL_law__284 rfl (fun h284 => ?_) (fun h284 => absurd (rfl) h284)
  exact hK x1 I2 J n w _ _ _ _ hg1 (cI_m hg1 hc1 f2) hm2 (by omega) (by omega)
theorem lw_1 {x : gX} {q : Nat} {v5 v6 v7 : Value} (hN : aNx g) (hL : 10 * q + 10 ≤ gL g) (hL2 : gL g ≤ 5120) (hx : gOk x) (hc : cI x I) (hm : mI x I) (hn : n + 1 ≤ 600000 ∧ w + 6 ≤ 7000000) (hK : ∀ (x' : gX) (I' : Nat → Nat → Int32) (J' : Nat → Nat → Int64) (n' w' : Nat) (v5 v6 v7 : Value) (ll : List (Nat × Int64)), gOk x' → cI x' I' → mI x' I' → n' ≤ n + 1 → w' ≤ w + 6 → Rn g (d + 40) mL_law_ 2692 [.ref 0, .ref 1, .ref 534, .ref 560, .int (nI (10 * q)), v5, v6, v7] ll [] (Z I' J' n' w') Q) : Rn g (d + 40) mL_law_ 289 [.ref 0, .ref 1, .ref 534, .ref 560, .int (nI (10 * q)), v5, v6, v7] [] [] (Z I J n w) Q := by
  obtain ⟨x1, A1, hg1, hA, hC, hM⟩ := pr_court (x := gx g (10 * q + 1)) hx
  refine s_aload_n (pc := 289) (i := 1) dL_law__289 rfl rfl ?_
  refine s_aload_n (pc := 290) (i := 0) dL_law__290 rfl rfl ?_
  refine s_iload (pc := 291) (i := 4) dL_law__291 rfl ?_
  refine m_ic (pc := 293) (v := 1) dL_law__293 rfl ?_
  refine s_iadd (pc := 294) dL_law__294 ?_
  refine m_nm (v' := nI ((10 * q) + 1)) (nI_add (10 * q) 1) ?_
  refine s_sld (pc := 295) dL_law__295 (vp_in_nI (n := (10 * q) + 1) (by omega) (by omega)) ?_
  refine m_nm (v' := gx g (10 * q + 1)) (rdX (by omega)) ?_
  refine s_aload_n (pc := 296) (i := 3) dL_law__296 rfl rfl ?_
  refine m_h3 (y' := mL_court) (pc := 297) dL_law__297 ml_L_128 ok_L_court sa_L_court rfl rfl (c_L_court hN (hC g (d + 30) I J n w _ hc hn (fun v1 I1 e1 hc1 f1 => ⟨I1, J, n, w, rfl, kt_s ?_⟩) (fun k1 I1 e1 hc1 f1 => ?_)))
  · refine s_istore (pc := 300) (i := 5) dL_law__300 (Nat.le_of_ble_eq_true rfl) ?_
    dsimp only [List.set, List.filter]
    refine s_aload_n (pc := 302) (i := 2) dL_law__302 rfl rfl ?_
    refine s_aload_n (pc := 303) (i := 0) dL_law__303 rfl rfl ?_
    refine s_iload (pc := 304) (i := 4) dL_law__304 rfl ?_
    refine m_ic (pc := 306) (v := 1) dL_law__306 rfl ?_
    refine s_iadd (pc := 307) dL_law__307 ?_
    refine m_nm (v' := nI ((10 * q) + 1)) (nI_add (10 * q) 1) ?_
    refine s_sld (pc := 308) dL_law__308 (vp_in_nI (n := (10 * q) + 1) (by omega) (by omega)) ?_
    refine m_nm (v' := gx g (10 * q + 1)) (rdX (by omega)) ?_
    refine m_v1 (pc := 309) dL_law__309 lk_L_133 ok_X12_court (rcO o_534 (by decide) rfl) rfl rfl (hM g (d + 33) I1 (upJ J 560 0 v1.toInt64) n w _ (mI_c hm f1) (fun v2 I2 e2 hm2 f2 h0 => kt_s ?_) (fun k2 I2 e2 _ _ _ => (by rw [e1] at e2; cases e2)))
    · have ev : v1 = v2 := by rw [e1] at e2; cases e2; rfl
      subst ev
      refine s_istore (pc := 312) (i := 6) dL_law__312 (Nat.le_of_ble_eq_true rfl) ?_
      dsimp only [List.set, List.filter]
      refine s_aload_n (pc := 314) (i := 2) dL_law__314 rfl rfl ?_
      refine m_v0 (pc := 315) dL_law__315 lk_L_134 ok_X12_thrown (rcO o_534 (by decide) rfl) rfl rfl (c_X12_thrown h0 (kt_s ?_))
      · refine s_iload (pc := 318) (i := 5) dL_law__318 rfl ?_
        refine s_iceq (pc := 320) (tgt := 325) dL_law__320 rfl (fun h320 => ?_) (fun h320 => absurd h320 (by decide))
        refine s_iload (pc := 325) (i := 5) dL_law__325 rfl ?_
        refine s_ifne (pc := 327) (tgt := 342) dL_law__327 rfl (fun h327 => absurd h327 (by decide)) (fun h327 => ?_)
        refine s_aload_n (pc := 330) (i := 3) dL_law__330 rfl rfl ?_
        refine m_ic (pc := 331) (v := 0) dL_law__331 rfl ?_
        refine m_la (pc := 332) dL_law__332 a_560 (vp_in_nI (n := 0) (by omega) (by decide)) ?_
        refine m_nl (v' := v1.toInt64) (uJ_s) ?_
        refine s_iload (pc := 333) (i := 6) dL_law__333 rfl ?_
        refine s_i2l (pc := 335) dL_law__335 ?_
        refine s_lcmp (pc := 336) dL_law__336 ?_
        refine m_nm (v' := 0) (lg_cc) ?_
        refine s_ifeq (pc := 337) (tgt := 342) dL_law__337 rfl (fun h337 => ?_) (fun h337 => absurd h337 (by decide))
        refine s_goto (pc := 342) (tgt := 2692) dL_law__342 rfl ?_
        exact hK x1 I2 _ n w _ _ _ _ hg1 (cI_m hg1 hc1 f2) hm2 (by omega) (by omega)
  · obtain ⟨c1, ec1, nc1⟩ := hA k1 e1
    refine ⟨c1, ec1, kt_s ?_⟩
    refine s_istore (pc := 300) (i := 5) dL_law__300 (Nat.le_of_ble_eq_true rfl) ?_
    dsimp only [List.set, List.filter]
    refine s_aload_n (pc := 302) (i := 2) dL_law__302 rfl rfl ?_
    refine s_aload_n (pc := 303) (i := 0) dL_law__303 rfl rfl ?_
    refine s_iload (pc := 304) (i := 4) dL_law__304 rfl ?_
    refine m_ic (pc := 306) (v := 1) dL_law__306 rfl ?_
    refine s_iadd (pc := 307) dL_law__307 ?_
    refine m_nm (v' := nI ((10 * q) + 1)) (nI_add (10 * q) 1) ?_
    refine s_sld (pc := 308) dL_law__308 (vp_in_nI (n := (10 * q) + 1) (by omega) (by omega)) ?_
    refine m_nm (v' := gx g (10 * q + 1)) (rdX (by omega)) ?_
    refine m_v1 (pc := 309) dL_law__309 lk_L_133 ok_X12_court (rcO o_534 (by decide) rfl) rfl rfl (hM g (d + 33) I1 J (n + 1) (w + 6) _ (mI_c hm f1) (fun v2 I2 e2 _ _ _ => (by rw [e1] at e2; cases e2)) (fun k2 I2 e2 hm2 f2 h0 => kt_s ?_))
    · have ek : k1 = k2 := by rw [e1] at e2; cases e2; rfl
      subst ek
      have h0 : I2 534 0 = c1 := h0.trans (by rw [ec1]; rfl)
      refine s_istore (pc := 312) (i := 6) dL_law__312 (Nat.le_of_ble_eq_true rfl) ?_
      dsimp only [List.set, List.filter]
      refine s_aload_n (pc := 314) (i := 2) dL_law__314 rfl rfl ?_
      refine m_v0 (pc := 315) dL_law__315 lk_L_134 ok_X12_thrown (rcO o_534 (by decide) rfl) rfl rfl (c_X12_thrown h0 (kt_s ?_))
      refine s_iload (pc := 318) (i := 5) dL_law__318 rfl ?_
      refine s_iceq (pc := 320) (tgt := 325) dL_law__320 rfl (fun h320 => ?_) (fun h320 => absurd (rfl) h320)
      refine s_iload (pc := 325) (i := 5) dL_law__325 rfl ?_
      refine s_ifne (pc := 327) (tgt := 342) dL_law__327 rfl (fun h327 => ?_) (fun h327 => absurd h327 (nc1))
      refine s_goto (pc := 342) (tgt := 2692) dL_law__342 rfl ?_
      exact hK x1 I2 J (n + 1) (w + 6) _ _ _ _ hg1 (cI_m hg1 hc1 f2) hm2 (by omega) (by omega)
theorem lw_2 {x : gX} {q : Nat} {v5 v6 v7 : Value} (hN : aNx g) (hL : 10 * q + 10 ≤ gL g) (hL2 : gL g ≤ 5120) (hx : gOk x) (hc : cI x I) (hm : mI x I) (hn : n + 1 ≤ 600000 ∧ w + 6 ≤ 7000000) (hK : ∀ (x' : gX) (I' : Nat → Nat → Int32) (J' : Nat → Nat → Int64) (n' w' : Nat) (v5 v6 v7 : Value) (ll : List (Nat × Int64)), gOk x' → cI x' I' → mI x' I' → n' ≤ n + 1 → w' ≤ w + 6 → Rn g (d + 40) mL_law_ 2692 [.ref 0, .ref 1, .ref 534, .ref 560, .int (nI (10 * q)), v5, v6, v7] ll [] (Z I' J' n' w') Q) : Rn g (d + 40) mL_law_ 345 [.ref 0, .ref 1, .ref 534, .ref 560, .int (nI (10 * q)), v5, v6, v7] [] [] (Z I J n w) Q := by
  obtain ⟨x1, A1, hg1, hA, hC, hM⟩ := pr_law (x := gx g (10 * q + 1)) hx
  refine s_aload_n (pc := 345) (i := 1) dL_law__345 rfl rfl ?_
  refine s_aload_n (pc := 346) (i := 0) dL_law__346 rfl rfl ?_
  refine s_iload (pc := 347) (i := 4) dL_law__347 rfl ?_
  refine m_ic (pc := 349) (v := 1) dL_law__349 rfl ?_
  refine s_iadd (pc := 350) dL_law__350 ?_
  refine m_nm (v' := nI ((10 * q) + 1)) (nI_add (10 * q) 1) ?_
  refine s_sld (pc := 351) dL_law__351 (vp_in_nI (n := (10 * q) + 1) (by omega) (by omega)) ?_
  refine m_nm (v' := gx g (10 * q + 1)) (rdX (by omega)) ?_
  refine s_aload_n (pc := 352) (i := 3) dL_law__352 rfl rfl ?_
  refine m_h3 (y' := mL_law) (pc := 353) dL_law__353 ml_L_138 ok_L_law sa_L_law rfl rfl (c_L_law hN (hC g (d + 4) I J n w _ hc hn (fun v1 I1 e1 hc1 f1 => ⟨I1, J, n, w, rfl, kt_s ?_⟩) (fun k1 I1 e1 hc1 f1 => ?_)))
  · refine s_istore (pc := 356) (i := 5) dL_law__356 (Nat.le_of_ble_eq_true rfl) ?_
    dsimp only [List.set, List.filter]
    refine s_aload_n (pc := 358) (i := 2) dL_law__358 rfl rfl ?_
    refine s_aload_n (pc := 359) (i := 0) dL_law__359 rfl rfl ?_
    refine s_iload (pc := 360) (i := 4) dL_law__360 rfl ?_
    refine m_ic (pc := 362) (v := 1) dL_law__362 rfl ?_
    refine s_iadd (pc := 363) dL_law__363 ?_
    refine m_nm (v' := nI ((10 * q) + 1)) (nI_add (10 * q) 1) ?_
    refine s_sld (pc := 364) dL_law__364 (vp_in_nI (n := (10 * q) + 1) (by omega) (by omega)) ?_
    refine m_nm (v' := gx g (10 * q + 1)) (rdX (by omega)) ?_
    refine m_v1 (pc := 365) dL_law__365 lk_L_140 ok_X12_law (rcO o_534 (by decide) rfl) rfl rfl (hM g (d + 6) I1 (upJ J 560 0 v1.toInt64) n w _ (mI_c hm f1) (fun v2 I2 e2 hm2 f2 h0 => kt_s ?_) (fun k2 I2 e2 _ _ _ => (by rw [e1] at e2; cases e2)))
    · have ev : v1 = v2 := by rw [e1] at e2; cases e2; rfl
      subst ev
      refine s_istore (pc := 368) (i := 6) dL_law__368 (Nat.le_of_ble_eq_true rfl) ?_
      dsimp only [List.set, List.filter]
      refine s_aload_n (pc := 370) (i := 2) dL_law__370 rfl rfl ?_
      refine m_v0 (pc := 371) dL_law__371 lk_L_134 ok_X12_thrown (rcO o_534 (by decide) rfl) rfl rfl (c_X12_thrown h0 (kt_s ?_))
      · refine s_iload (pc := 374) (i := 5) dL_law__374 rfl ?_
        refine s_iceq (pc := 376) (tgt := 381) dL_law__376 rfl (fun h376 => ?_) (fun h376 => absurd h376 (by decide))
        refine s_iload (pc := 381) (i := 5) dL_law__381 rfl ?_
        refine s_ifne (pc := 383) (tgt := 398) dL_law__383 rfl (fun h383 => absurd h383 (by decide)) (fun h383 => ?_)
        refine s_aload_n (pc := 386) (i := 3) dL_law__386 rfl rfl ?_
        refine m_ic (pc := 387) (v := 0) dL_law__387 rfl ?_
        refine m_la (pc := 388) dL_law__388 a_560 (vp_in_nI (n := 0) (by omega) (by decide)) ?_
        refine m_nl (v' := v1.toInt64) (uJ_s) ?_
        refine s_iload (pc := 389) (i := 6) dL_law__389 rfl ?_
        refine s_i2l (pc := 391) dL_law__391 ?_
        refine s_lcmp (pc := 392) dL_law__392 ?_
        refine m_nm (v' := 0) (lg_cc) ?_
        refine s_ifeq (pc := 393) (tgt := 398) dL_law__393 rfl (fun h393 => ?_) (fun h393 => absurd h393 (by decide))
        refine s_goto (pc := 398) (tgt := 2692) dL_law__398 rfl ?_
        exact hK x1 I2 _ n w _ _ _ _ hg1 (cI_m hg1 hc1 f2) hm2 (by omega) (by omega)
  · obtain ⟨c1, ec1, nc1⟩ := hA k1 e1
    refine ⟨c1, ec1, kt_s ?_⟩
    refine s_istore (pc := 356) (i := 5) dL_law__356 (Nat.le_of_ble_eq_true rfl) ?_
    dsimp only [List.set, List.filter]
    refine s_aload_n (pc := 358) (i := 2) dL_law__358 rfl rfl ?_
    refine s_aload_n (pc := 359) (i := 0) dL_law__359 rfl rfl ?_
    refine s_iload (pc := 360) (i := 4) dL_law__360 rfl ?_
    refine m_ic (pc := 362) (v := 1) dL_law__362 rfl ?_
    refine s_iadd (pc := 363) dL_law__363 ?_
    refine m_nm (v' := nI ((10 * q) + 1)) (nI_add (10 * q) 1) ?_
    refine s_sld (pc := 364) dL_law__364 (vp_in_nI (n := (10 * q) + 1) (by omega) (by omega)) ?_
    refine m_nm (v' := gx g (10 * q + 1)) (rdX (by omega)) ?_
    refine m_v1 (pc := 365) dL_law__365 lk_L_140 ok_X12_law (rcO o_534 (by decide) rfl) rfl rfl (hM g (d + 6) I1 J (n + 1) (w + 6) _ (mI_c hm f1) (fun v2 I2 e2 _ _ _ => (by rw [e1] at e2; cases e2)) (fun k2 I2 e2 hm2 f2 h0 => kt_s ?_))
    · have ek : k1 = k2 := by rw [e1] at e2; cases e2; rfl
      subst ek
      have h0 : I2 534 0 = c1 := h0.trans (by rw [ec1]; rfl)
      refine s_istore (pc := 368) (i := 6) dL_law__368 (Nat.le_of_ble_eq_true rfl) ?_
      dsimp only [List.set, List.filter]
      refine s_aload_n (pc := 370) (i := 2) dL_law__370 rfl rfl ?_
      refine m_v0 (pc := 371) dL_law__371 lk_L_134 ok_X12_thrown (rcO o_534 (by decide) rfl) rfl rfl (c_X12_thrown h0 (kt_s ?_))
      refine s_iload (pc := 374) (i := 5) dL_law__374 rfl ?_
      refine s_iceq (pc := 376) (tgt := 381) dL_law__376 rfl (fun h376 => ?_) (fun h376 => absurd (rfl) h376)
      refine s_iload (pc := 381) (i := 5) dL_law__381 rfl ?_
      refine s_ifne (pc := 383) (tgt := 398) dL_law__383 rfl (fun h383 => ?_) (fun h383 => absurd h383 (nc1))
      refine s_goto (pc := 398) (tgt := 2692) dL_law__398 rfl ?_
      exact hK x1 I2 J (n + 1) (w + 6) _ _ _ _ hg1 (cI_m hg1 hc1 f2) hm2 (by omega) (by omega)
theorem lw_3 {x : gX} {q : Nat} {v5 v6 v7 : Value} (hN : aNx g) (hL : 10 * q + 10 ≤ gL g) (hL2 : gL g ≤ 5120) (hx : gOk x) (hc : cI x I) (hm : mI x I) (hn : n + 1 ≤ 600000 ∧ w + 6 ≤ 7000000) (hK : ∀ (x' : gX) (I' : Nat → Nat → Int32) (J' : Nat → Nat → Int64) (n' w' : Nat) (v5 v6 v7 : Value) (ll : List (Nat × Int64)), gOk x' → cI x' I' → mI x' I' → n' ≤ n + 1 → w' ≤ w + 6 → Rn g (d + 40) mL_law_ 2692 [.ref 0, .ref 1, .ref 534, .ref 560, .int (nI (10 * q)), v5, v6, v7] ll [] (Z I' J' n' w') Q) : Rn g (d + 40) mL_law_ 401 [.ref 0, .ref 1, .ref 534, .ref 560, .int (nI (10 * q)), v5, v6, v7] [] [] (Z I J n w) Q := by
  obtain ⟨x1, A1, hg1, hA, hC, hM⟩ := pr_work (x := gx g (10 * q + 1)) hx
  refine s_aload_n (pc := 401) (i := 1) dL_law__401 rfl rfl ?_
  refine s_aload_n (pc := 402) (i := 0) dL_law__402 rfl rfl ?_
  refine s_iload (pc := 403) (i := 4) dL_law__403 rfl ?_
  refine m_ic (pc := 405) (v := 1) dL_law__405 rfl ?_
  refine s_iadd (pc := 406) dL_law__406 ?_
  refine m_nm (v' := nI ((10 * q) + 1)) (nI_add (10 * q) 1) ?_
  refine s_sld (pc := 407) dL_law__407 (vp_in_nI (n := (10 * q) + 1) (by omega) (by omega)) ?_
  refine m_nm (v' := gx g (10 * q + 1)) (rdX (by omega)) ?_
  refine s_aload_n (pc := 408) (i := 3) dL_law__408 rfl rfl ?_
  refine m_h3 (y' := mL_work) (pc := 409) dL_law__409 ml_L_141 ok_L_work sa_L_work rfl rfl (c_L_work hN (hC g (d + 12) I J n w _ hc hn (fun v1 I1 e1 hc1 f1 => ⟨I1, J, n, w, rfl, kt_s ?_⟩) (fun k1 I1 e1 hc1 f1 => ?_)))
  · refine s_istore (pc := 412) (i := 5) dL_law__412 (Nat.le_of_ble_eq_true rfl) ?_
    dsimp only [List.set, List.filter]
    refine s_aload_n (pc := 414) (i := 2) dL_law__414 rfl rfl ?_
    refine s_aload_n (pc := 415) (i := 0) dL_law__415 rfl rfl ?_
    refine s_iload (pc := 416) (i := 4) dL_law__416 rfl ?_
    refine m_ic (pc := 418) (v := 1) dL_law__418 rfl ?_
    refine s_iadd (pc := 419) dL_law__419 ?_
    refine m_nm (v' := nI ((10 * q) + 1)) (nI_add (10 * q) 1) ?_
    refine s_sld (pc := 420) dL_law__420 (vp_in_nI (n := (10 * q) + 1) (by omega) (by omega)) ?_
    refine m_nm (v' := gx g (10 * q + 1)) (rdX (by omega)) ?_
    refine m_v1 (pc := 421) dL_law__421 lk_L_143 ok_X12_work (rcO o_534 (by decide) rfl) rfl rfl (hM g (d + 20) I1 (upJ J 560 0 v1.toInt64) n w _ (mI_c hm f1) (fun v2 I2 e2 hm2 f2 h0 => kt_s ?_) (fun k2 I2 e2 _ _ _ => (by rw [e1] at e2; cases e2)))
    · have ev : v1 = v2 := by rw [e1] at e2; cases e2; rfl
      subst ev
      refine s_istore (pc := 424) (i := 6) dL_law__424 (Nat.le_of_ble_eq_true rfl) ?_
      dsimp only [List.set, List.filter]
      refine s_aload_n (pc := 426) (i := 2) dL_law__426 rfl rfl ?_
      refine m_v0 (pc := 427) dL_law__427 lk_L_134 ok_X12_thrown (rcO o_534 (by decide) rfl) rfl rfl (c_X12_thrown h0 (kt_s ?_))
      · refine s_iload (pc := 430) (i := 5) dL_law__430 rfl ?_
        refine s_iceq (pc := 432) (tgt := 437) dL_law__432 rfl (fun h432 => ?_) (fun h432 => absurd h432 (by decide))
        refine s_iload (pc := 437) (i := 5) dL_law__437 rfl ?_
        refine s_ifne (pc := 439) (tgt := 454) dL_law__439 rfl (fun h439 => absurd h439 (by decide)) (fun h439 => ?_)
        refine s_aload_n (pc := 442) (i := 3) dL_law__442 rfl rfl ?_
        refine m_ic (pc := 443) (v := 0) dL_law__443 rfl ?_
        refine m_la (pc := 444) dL_law__444 a_560 (vp_in_nI (n := 0) (by omega) (by decide)) ?_
        refine m_nl (v' := v1.toInt64) (uJ_s) ?_
        refine s_iload (pc := 445) (i := 6) dL_law__445 rfl ?_
        refine s_i2l (pc := 447) dL_law__447 ?_
        refine s_lcmp (pc := 448) dL_law__448 ?_
        refine m_nm (v' := 0) (lg_cc) ?_
        refine s_ifeq (pc := 449) (tgt := 454) dL_law__449 rfl (fun h449 => ?_) (fun h449 => absurd h449 (by decide))
        refine s_goto (pc := 454) (tgt := 2692) dL_law__454 rfl ?_
        exact hK x1 I2 _ n w _ _ _ _ hg1 (cI_m hg1 hc1 f2) hm2 (by omega) (by omega)
  · obtain ⟨c1, ec1, nc1⟩ := hA k1 e1
    refine ⟨c1, ec1, kt_s ?_⟩
    refine s_istore (pc := 412) (i := 5) dL_law__412 (Nat.le_of_ble_eq_true rfl) ?_
    dsimp only [List.set, List.filter]
    refine s_aload_n (pc := 414) (i := 2) dL_law__414 rfl rfl ?_
    refine s_aload_n (pc := 415) (i := 0) dL_law__415 rfl rfl ?_
    refine s_iload (pc := 416) (i := 4) dL_law__416 rfl ?_
    refine m_ic (pc := 418) (v := 1) dL_law__418 rfl ?_
    refine s_iadd (pc := 419) dL_law__419 ?_
    refine m_nm (v' := nI ((10 * q) + 1)) (nI_add (10 * q) 1) ?_
    refine s_sld (pc := 420) dL_law__420 (vp_in_nI (n := (10 * q) + 1) (by omega) (by omega)) ?_
    refine m_nm (v' := gx g (10 * q + 1)) (rdX (by omega)) ?_
    refine m_v1 (pc := 421) dL_law__421 lk_L_143 ok_X12_work (rcO o_534 (by decide) rfl) rfl rfl (hM g (d + 20) I1 J (n + 1) (w + 6) _ (mI_c hm f1) (fun v2 I2 e2 _ _ _ => (by rw [e1] at e2; cases e2)) (fun k2 I2 e2 hm2 f2 h0 => kt_s ?_))
    · have ek : k1 = k2 := by rw [e1] at e2; cases e2; rfl
      subst ek
      have h0 : I2 534 0 = c1 := h0.trans (by rw [ec1]; rfl)
      refine s_istore (pc := 424) (i := 6) dL_law__424 (Nat.le_of_ble_eq_true rfl) ?_
      dsimp only [List.set, List.filter]
      refine s_aload_n (pc := 426) (i := 2) dL_law__426 rfl rfl ?_
      refine m_v0 (pc := 427) dL_law__427 lk_L_134 ok_X12_thrown (rcO o_534 (by decide) rfl) rfl rfl (c_X12_thrown h0 (kt_s ?_))
      refine s_iload (pc := 430) (i := 5) dL_law__430 rfl ?_
      refine s_iceq (pc := 432) (tgt := 437) dL_law__432 rfl (fun h432 => ?_) (fun h432 => absurd (rfl) h432)
      refine s_iload (pc := 437) (i := 5) dL_law__437 rfl ?_
      refine s_ifne (pc := 439) (tgt := 454) dL_law__439 rfl (fun h439 => ?_) (fun h439 => absurd h439 (nc1))
      refine s_goto (pc := 454) (tgt := 2692) dL_law__454 rfl ?_
      exact hK x1 I2 J (n + 1) (w + 6) _ _ _ _ hg1 (cI_m hg1 hc1 f2) hm2 (by omega) (by omega)
theorem lw_4 {x : gX} {q : Nat} {v5 v6 v7 : Value} (hN : aNx g) (hL : 10 * q + 10 ≤ gL g) (hL2 : gL g ≤ 5120) (hx : gOk x) (hc : cI x I) (hm : mI x I) (hn : n + 1 ≤ 600000 ∧ w + 6 ≤ 7000000) (hK : ∀ (x' : gX) (I' : Nat → Nat → Int32) (J' : Nat → Nat → Int64) (n' w' : Nat) (v5 v6 v7 : Value) (ll : List (Nat × Int64)), gOk x' → cI x' I' → mI x' I' → n' ≤ n + 1 → w' ≤ w + 6 → Rn g (d + 40) mL_law_ 2692 [.ref 0, .ref 1, .ref 534, .ref 560, .int (nI (10 * q)), v5, v6, v7] ll [] (Z I' J' n' w') Q) : Rn g (d + 40) mL_law_ 457 [.ref 0, .ref 1, .ref 534, .ref 560, .int (nI (10 * q)), v5, v6, v7] [] [] (Z I J n w) Q := by
  obtain ⟨x1, A1, hg1, hA, hC, hM⟩ := pr_book (x := gx g (10 * q + 1)) hx
  refine s_aload_n (pc := 457) (i := 1) dL_law__457 rfl rfl ?_
  refine s_aload_n (pc := 458) (i := 0) dL_law__458 rfl rfl ?_
  refine s_iload (pc := 459) (i := 4) dL_law__459 rfl ?_
  refine m_ic (pc := 461) (v := 1) dL_law__461 rfl ?_
  refine s_iadd (pc := 462) dL_law__462 ?_
  refine m_nm (v' := nI ((10 * q) + 1)) (nI_add (10 * q) 1) ?_
  refine s_sld (pc := 463) dL_law__463 (vp_in_nI (n := (10 * q) + 1) (by omega) (by omega)) ?_
  refine m_nm (v' := gx g (10 * q + 1)) (rdX (by omega)) ?_
  refine s_aload_n (pc := 464) (i := 3) dL_law__464 rfl rfl ?_
  refine m_h3 (y' := mL_book) (pc := 465) dL_law__465 ml_L_144 ok_L_book sa_L_book rfl rfl (c_L_book hN (hC g (d + 30) I J n w _ hc hn (fun v1 I1 e1 hc1 f1 => ⟨I1, J, n, w, rfl, kt_s ?_⟩) (fun k1 I1 e1 hc1 f1 => ?_)))
  · refine s_istore (pc := 468) (i := 5) dL_law__468 (Nat.le_of_ble_eq_true rfl) ?_
    dsimp only [List.set, List.filter]
    refine s_aload_n (pc := 470) (i := 2) dL_law__470 rfl rfl ?_
    refine s_aload_n (pc := 471) (i := 0) dL_law__471 rfl rfl ?_
    refine s_iload (pc := 472) (i := 4) dL_law__472 rfl ?_
    refine m_ic (pc := 474) (v := 1) dL_law__474 rfl ?_
    refine s_iadd (pc := 475) dL_law__475 ?_
    refine m_nm (v' := nI ((10 * q) + 1)) (nI_add (10 * q) 1) ?_
    refine s_sld (pc := 476) dL_law__476 (vp_in_nI (n := (10 * q) + 1) (by omega) (by omega)) ?_
    refine m_nm (v' := gx g (10 * q + 1)) (rdX (by omega)) ?_
    refine m_v1 (pc := 477) dL_law__477 lk_L_146 ok_X12_book (rcO o_534 (by decide) rfl) rfl rfl (hM g (d + 35) I1 (upJ J 560 0 v1.toInt64) n w _ (mI_c hm f1) (fun v2 I2 e2 hm2 f2 h0 => kt_s ?_) (fun k2 I2 e2 _ _ _ => (by rw [e1] at e2; cases e2)))
    · have ev : v1 = v2 := by rw [e1] at e2; cases e2; rfl
      subst ev
      refine s_istore (pc := 480) (i := 6) dL_law__480 (Nat.le_of_ble_eq_true rfl) ?_
      dsimp only [List.set, List.filter]
      refine s_aload_n (pc := 482) (i := 2) dL_law__482 rfl rfl ?_
      refine m_v0 (pc := 483) dL_law__483 lk_L_134 ok_X12_thrown (rcO o_534 (by decide) rfl) rfl rfl (c_X12_thrown h0 (kt_s ?_))
      · refine s_iload (pc := 486) (i := 5) dL_law__486 rfl ?_
        refine s_iceq (pc := 488) (tgt := 493) dL_law__488 rfl (fun h488 => ?_) (fun h488 => absurd h488 (by decide))
        refine s_iload (pc := 493) (i := 5) dL_law__493 rfl ?_
        refine s_ifne (pc := 495) (tgt := 510) dL_law__495 rfl (fun h495 => absurd h495 (by decide)) (fun h495 => ?_)
        refine s_aload_n (pc := 498) (i := 3) dL_law__498 rfl rfl ?_
        refine m_ic (pc := 499) (v := 0) dL_law__499 rfl ?_
        refine m_la (pc := 500) dL_law__500 a_560 (vp_in_nI (n := 0) (by omega) (by decide)) ?_
        refine m_nl (v' := v1.toInt64) (uJ_s) ?_
        refine s_iload (pc := 501) (i := 6) dL_law__501 rfl ?_
        refine s_i2l (pc := 503) dL_law__503 ?_
        refine s_lcmp (pc := 504) dL_law__504 ?_
        refine m_nm (v' := 0) (lg_cc) ?_
        refine s_ifeq (pc := 505) (tgt := 510) dL_law__505 rfl (fun h505 => ?_) (fun h505 => absurd h505 (by decide))
        refine s_goto (pc := 510) (tgt := 2692) dL_law__510 rfl ?_
        exact hK x1 I2 _ n w _ _ _ _ hg1 (cI_m hg1 hc1 f2) hm2 (by omega) (by omega)
  · obtain ⟨c1, ec1, nc1⟩ := hA k1 e1
    refine ⟨c1, ec1, kt_s ?_⟩
    refine s_istore (pc := 468) (i := 5) dL_law__468 (Nat.le_of_ble_eq_true rfl) ?_
    dsimp only [List.set, List.filter]
    refine s_aload_n (pc := 470) (i := 2) dL_law__470 rfl rfl ?_
    refine s_aload_n (pc := 471) (i := 0) dL_law__471 rfl rfl ?_
    refine s_iload (pc := 472) (i := 4) dL_law__472 rfl ?_
    refine m_ic (pc := 474) (v := 1) dL_law__474 rfl ?_
    refine s_iadd (pc := 475) dL_law__475 ?_
    refine m_nm (v' := nI ((10 * q) + 1)) (nI_add (10 * q) 1) ?_
    refine s_sld (pc := 476) dL_law__476 (vp_in_nI (n := (10 * q) + 1) (by omega) (by omega)) ?_
    refine m_nm (v' := gx g (10 * q + 1)) (rdX (by omega)) ?_
    refine m_v1 (pc := 477) dL_law__477 lk_L_146 ok_X12_book (rcO o_534 (by decide) rfl) rfl rfl (hM g (d + 35) I1 J (n + 1) (w + 6) _ (mI_c hm f1) (fun v2 I2 e2 _ _ _ => (by rw [e1] at e2; cases e2)) (fun k2 I2 e2 hm2 f2 h0 => kt_s ?_))
    · have ek : k1 = k2 := by rw [e1] at e2; cases e2; rfl
      subst ek
      have h0 : I2 534 0 = c1 := h0.trans (by rw [ec1]; rfl)
      refine s_istore (pc := 480) (i := 6) dL_law__480 (Nat.le_of_ble_eq_true rfl) ?_
      dsimp only [List.set, List.filter]
      refine s_aload_n (pc := 482) (i := 2) dL_law__482 rfl rfl ?_
      refine m_v0 (pc := 483) dL_law__483 lk_L_134 ok_X12_thrown (rcO o_534 (by decide) rfl) rfl rfl (c_X12_thrown h0 (kt_s ?_))
      refine s_iload (pc := 486) (i := 5) dL_law__486 rfl ?_
      refine s_iceq (pc := 488) (tgt := 493) dL_law__488 rfl (fun h488 => ?_) (fun h488 => absurd (rfl) h488)
      refine s_iload (pc := 493) (i := 5) dL_law__493 rfl ?_
      refine s_ifne (pc := 495) (tgt := 510) dL_law__495 rfl (fun h495 => ?_) (fun h495 => absurd h495 (nc1))
      refine s_goto (pc := 510) (tgt := 2692) dL_law__510 rfl ?_
      exact hK x1 I2 J (n + 1) (w + 6) _ _ _ _ hg1 (cI_m hg1 hc1 f2) hm2 (by omega) (by omega)
theorem lw_5 {x : gX} {q : Nat} {v5 v6 v7 : Value} (hN : aNx g) (hL : 10 * q + 10 ≤ gL g) (hL2 : gL g ≤ 5120) (hx : gOk x) (hc : cI x I) (hm : mI x I) (hn : n + 1 ≤ 600000 ∧ w + 6 ≤ 7000000) (hK : ∀ (x' : gX) (I' : Nat → Nat → Int32) (J' : Nat → Nat → Int64) (n' w' : Nat) (v5 v6 v7 : Value) (ll : List (Nat × Int64)), gOk x' → cI x' I' → mI x' I' → n' ≤ n + 1 → w' ≤ w + 6 → Rn g (d + 40) mL_law_ 2692 [.ref 0, .ref 1, .ref 534, .ref 560, .int (nI (10 * q)), v5, v6, v7] ll [] (Z I' J' n' w') Q) : Rn g (d + 40) mL_law_ 513 [.ref 0, .ref 1, .ref 534, .ref 560, .int (nI (10 * q)), v5, v6, v7] [] [] (Z I J n w) Q := by
  obtain ⟨x1, v1, hg1, hC, hM⟩ := pr_fault  hx
  refine s_aload_n (pc := 513) (i := 1) dL_law__513 rfl rfl ?_
  refine m_v0 (pc := 514) dL_law__514 lk_L_147 ok_X11_fault (rcO o_1 (by decide) rfl) rfl rfl (hC g (d + 39) I J n w _ hc (fun I1 hc1 f1 => kt_s ?_))
  refine s_aload_n (pc := 517) (i := 2) dL_law__517 rfl rfl ?_
  refine m_v0 (pc := 518) dL_law__518 lk_L_150 ok_X12_fault (rcO o_534 (by decide) rfl) rfl rfl (hM g (d + 39) I1 J n w _ (mI_c hm f1) (fun I2 hm2 f2 => kt_s ?_))
  refine s_iceq (pc := 521) (tgt := 2692) dL_law__521 rfl (fun h521 => ?_) (fun h521 => absurd (rfl) h521)
  exact hK x1 I2 J n w _ _ _ _ hg1 (cI_m hg1 hc1 f2) hm2 (by omega) (by omega)
theorem lw_6 {x : gX} {q : Nat} {v5 v6 v7 : Value} (hN : aNx g) (hL : 10 * q + 10 ≤ gL g) (hL2 : gL g ≤ 5120) (hx : gOk x) (hc : cI x I) (hm : mI x I) (hn : n + 1 ≤ 600000 ∧ w + 6 ≤ 7000000) (hK : ∀ (x' : gX) (I' : Nat → Nat → Int32) (J' : Nat → Nat → Int64) (n' w' : Nat) (v5 v6 v7 : Value) (ll : List (Nat × Int64)), gOk x' → cI x' I' → mI x' I' → n' ≤ n + 1 → w' ≤ w + 6 → Rn g (d + 40) mL_law_ 2692 [.ref 0, .ref 1, .ref 534, .ref 560, .int (nI (10 * q)), v5, v6, v7] ll [] (Z I' J' n' w') Q) : Rn g (d + 40) mL_law_ 526 [.ref 0, .ref 1, .ref 534, .ref 560, .int (nI (10 * q)), v5, v6, v7] [] [] (Z I J n w) Q := by
  obtain ⟨x1, v1, hg1, hC, hM⟩ := pr_undo  hx
  refine s_aload_n (pc := 526) (i := 1) dL_law__526 rfl rfl ?_
  refine m_v0 (pc := 527) dL_law__527 lk_L_151 ok_X11_undo (rcO o_1 (by decide) rfl) rfl rfl (hC g (d + 36) I J n w _ hc (fun I1 hc1 f1 => kt_s ?_))
  refine s_aload_n (pc := 530) (i := 2) dL_law__530 rfl rfl ?_
  refine m_v0 (pc := 531) dL_law__531 lk_L_154 ok_X12_undo (rcO o_534 (by decide) rfl) rfl rfl (hM g (d + 39) I1 J n w _ (mI_c hm f1) (fun I2 hm2 f2 => kt_s ?_))
  refine s_iceq (pc := 534) (tgt := 2692) dL_law__534 rfl (fun h534 => ?_) (fun h534 => absurd (rfl) h534)
  exact hK x1 I2 J n w _ _ _ _ hg1 (cI_m hg1 hc1 f2) hm2 (by omega) (by omega)
theorem lw_7 {x : gX} {q : Nat} {v5 v6 v7 : Value} (hN : aNx g) (hL : 10 * q + 10 ≤ gL g) (hL2 : gL g ≤ 5120) (hx : gOk x) (hc : cI x I) (hm : mI x I) (hn : n + 1 ≤ 600000 ∧ w + 6 ≤ 7000000) (hK : ∀ (x' : gX) (I' : Nat → Nat → Int32) (J' : Nat → Nat → Int64) (n' w' : Nat) (v5 v6 v7 : Value) (ll : List (Nat × Int64)), gOk x' → cI x' I' → mI x' I' → n' ≤ n + 1 → w' ≤ w + 6 → Rn g (d + 40) mL_law_ 2692 [.ref 0, .ref 1, .ref 534, .ref 560, .int (nI (10 * q)), v5, v6, v7] ll [] (Z I' J' n' w') Q) : Rn g (d + 40) mL_law_ 539 [.ref 0, .ref 1, .ref 534, .ref 560, .int (nI (10 * q)), v5, v6, v7] [] [] (Z I J n w) Q := by
  obtain ⟨x1, A1, hg1, hA, hC, hM⟩ := pr_told (x := gx g (10 * q + 1)) hx
  refine s_aload_n (pc := 539) (i := 1) dL_law__539 rfl rfl ?_
  refine s_aload_n (pc := 540) (i := 0) dL_law__540 rfl rfl ?_
  refine s_iload (pc := 541) (i := 4) dL_law__541 rfl ?_
  refine m_ic (pc := 543) (v := 1) dL_law__543 rfl ?_
  refine s_iadd (pc := 544) dL_law__544 ?_
  refine m_nm (v' := nI ((10 * q) + 1)) (nI_add (10 * q) 1) ?_
  refine s_sld (pc := 545) dL_law__545 (vp_in_nI (n := (10 * q) + 1) (by omega) (by omega)) ?_
  refine m_nm (v' := gx g (10 * q + 1)) (rdX (by omega)) ?_
  refine s_aload_n (pc := 546) (i := 3) dL_law__546 rfl rfl ?_
  refine m_h3 (y' := mL_told) (pc := 547) dL_law__547 ml_L_155 ok_L_told sa_L_told rfl rfl (c_L_told hN (hC g (d + 30) I J n w _ hc hn (fun v1 I1 e1 hc1 f1 => ⟨I1, J, n, w, rfl, kt_s ?_⟩) (fun k1 I1 e1 hc1 f1 => ?_)))
  · refine s_istore (pc := 550) (i := 5) dL_law__550 (Nat.le_of_ble_eq_true rfl) ?_
    dsimp only [List.set, List.filter]
    refine s_aload_n (pc := 552) (i := 2) dL_law__552 rfl rfl ?_
    refine s_aload_n (pc := 553) (i := 0) dL_law__553 rfl rfl ?_
    refine s_iload (pc := 554) (i := 4) dL_law__554 rfl ?_
    refine m_ic (pc := 556) (v := 1) dL_law__556 rfl ?_
    refine s_iadd (pc := 557) dL_law__557 ?_
    refine m_nm (v' := nI ((10 * q) + 1)) (nI_add (10 * q) 1) ?_
    refine s_sld (pc := 558) dL_law__558 (vp_in_nI (n := (10 * q) + 1) (by omega) (by omega)) ?_
    refine m_nm (v' := gx g (10 * q + 1)) (rdX (by omega)) ?_
    refine m_v1 (pc := 559) dL_law__559 lk_L_157 ok_X12_told (rcO o_534 (by decide) rfl) rfl rfl (hM g (d + 36) I1 (upJ J 560 0 v1.toInt64) n w _ (mI_c hm f1) (fun v2 I2 e2 hm2 f2 h0 => kt_s ?_) (fun k2 I2 e2 _ _ _ => (by rw [e1] at e2; cases e2)))
    · have ev : v1 = v2 := by rw [e1] at e2; cases e2; rfl
      subst ev
      refine s_istore (pc := 562) (i := 6) dL_law__562 (Nat.le_of_ble_eq_true rfl) ?_
      dsimp only [List.set, List.filter]
      refine s_aload_n (pc := 564) (i := 2) dL_law__564 rfl rfl ?_
      refine m_v0 (pc := 565) dL_law__565 lk_L_134 ok_X12_thrown (rcO o_534 (by decide) rfl) rfl rfl (c_X12_thrown h0 (kt_s ?_))
      · refine s_iload (pc := 568) (i := 5) dL_law__568 rfl ?_
        refine s_iceq (pc := 570) (tgt := 575) dL_law__570 rfl (fun h570 => ?_) (fun h570 => absurd h570 (by decide))
        refine s_iload (pc := 575) (i := 5) dL_law__575 rfl ?_
        refine s_ifne (pc := 577) (tgt := 592) dL_law__577 rfl (fun h577 => absurd h577 (by decide)) (fun h577 => ?_)
        refine s_aload_n (pc := 580) (i := 3) dL_law__580 rfl rfl ?_
        refine m_ic (pc := 581) (v := 0) dL_law__581 rfl ?_
        refine m_la (pc := 582) dL_law__582 a_560 (vp_in_nI (n := 0) (by omega) (by decide)) ?_
        refine m_nl (v' := v1.toInt64) (uJ_s) ?_
        refine s_iload (pc := 583) (i := 6) dL_law__583 rfl ?_
        refine s_i2l (pc := 585) dL_law__585 ?_
        refine s_lcmp (pc := 586) dL_law__586 ?_
        refine m_nm (v' := 0) (lg_cc) ?_
        refine s_ifeq (pc := 587) (tgt := 592) dL_law__587 rfl (fun h587 => ?_) (fun h587 => absurd h587 (by decide))
        refine s_goto (pc := 592) (tgt := 2692) dL_law__592 rfl ?_
        exact hK x1 I2 _ n w _ _ _ _ hg1 (cI_m hg1 hc1 f2) hm2 (by omega) (by omega)
  · obtain ⟨c1, ec1, nc1⟩ := hA k1 e1
    refine ⟨c1, ec1, kt_s ?_⟩
    refine s_istore (pc := 550) (i := 5) dL_law__550 (Nat.le_of_ble_eq_true rfl) ?_
    dsimp only [List.set, List.filter]
    refine s_aload_n (pc := 552) (i := 2) dL_law__552 rfl rfl ?_
    refine s_aload_n (pc := 553) (i := 0) dL_law__553 rfl rfl ?_
    refine s_iload (pc := 554) (i := 4) dL_law__554 rfl ?_
    refine m_ic (pc := 556) (v := 1) dL_law__556 rfl ?_
    refine s_iadd (pc := 557) dL_law__557 ?_
    refine m_nm (v' := nI ((10 * q) + 1)) (nI_add (10 * q) 1) ?_
    refine s_sld (pc := 558) dL_law__558 (vp_in_nI (n := (10 * q) + 1) (by omega) (by omega)) ?_
    refine m_nm (v' := gx g (10 * q + 1)) (rdX (by omega)) ?_
    refine m_v1 (pc := 559) dL_law__559 lk_L_157 ok_X12_told (rcO o_534 (by decide) rfl) rfl rfl (hM g (d + 36) I1 J (n + 1) (w + 6) _ (mI_c hm f1) (fun v2 I2 e2 _ _ _ => (by rw [e1] at e2; cases e2)) (fun k2 I2 e2 hm2 f2 h0 => kt_s ?_))
    · have ek : k1 = k2 := by rw [e1] at e2; cases e2; rfl
      subst ek
      have h0 : I2 534 0 = c1 := h0.trans (by rw [ec1]; rfl)
      refine s_istore (pc := 562) (i := 6) dL_law__562 (Nat.le_of_ble_eq_true rfl) ?_
      dsimp only [List.set, List.filter]
      refine s_aload_n (pc := 564) (i := 2) dL_law__564 rfl rfl ?_
      refine m_v0 (pc := 565) dL_law__565 lk_L_134 ok_X12_thrown (rcO o_534 (by decide) rfl) rfl rfl (c_X12_thrown h0 (kt_s ?_))
      refine s_iload (pc := 568) (i := 5) dL_law__568 rfl ?_
      refine s_iceq (pc := 570) (tgt := 575) dL_law__570 rfl (fun h570 => ?_) (fun h570 => absurd (rfl) h570)
      refine s_iload (pc := 575) (i := 5) dL_law__575 rfl ?_
      refine s_ifne (pc := 577) (tgt := 592) dL_law__577 rfl (fun h577 => ?_) (fun h577 => absurd h577 (nc1))
      refine s_goto (pc := 592) (tgt := 2692) dL_law__592 rfl ?_
      exact hK x1 I2 J (n + 1) (w + 6) _ _ _ _ hg1 (cI_m hg1 hc1 f2) hm2 (by omega) (by omega)
theorem lw_8 {x : gX} {q : Nat} {v5 v6 v7 : Value} (hN : aNx g) (hL : 10 * q + 10 ≤ gL g) (hL2 : gL g ≤ 5120) (hx : gOk x) (hc : cI x I) (hm : mI x I) (hn : n + 1 ≤ 600000 ∧ w + 6 ≤ 7000000) (hK : ∀ (x' : gX) (I' : Nat → Nat → Int32) (J' : Nat → Nat → Int64) (n' w' : Nat) (v5 v6 v7 : Value) (ll : List (Nat × Int64)), gOk x' → cI x' I' → mI x' I' → n' ≤ n + 1 → w' ≤ w + 6 → Rn g (d + 40) mL_law_ 2692 [.ref 0, .ref 1, .ref 534, .ref 560, .int (nI (10 * q)), v5, v6, v7] ll [] (Z I' J' n' w') Q) : Rn g (d + 40) mL_law_ 595 [.ref 0, .ref 1, .ref 534, .ref 560, .int (nI (10 * q)), v5, v6, v7] [] [] (Z I J n w) Q := by
  obtain ⟨x1, A1, hg1, hA, hC, hM⟩ := pr_back (x := gx g (10 * q + 1)) (y := gx g (10 * q + 2)) hx
  refine s_aload_n (pc := 595) (i := 1) dL_law__595 rfl rfl ?_
  refine s_aload_n (pc := 596) (i := 0) dL_law__596 rfl rfl ?_
  refine s_iload (pc := 597) (i := 4) dL_law__597 rfl ?_
  refine m_ic (pc := 599) (v := 1) dL_law__599 rfl ?_
  refine s_iadd (pc := 600) dL_law__600 ?_
  refine m_nm (v' := nI ((10 * q) + 1)) (nI_add (10 * q) 1) ?_
  refine s_sld (pc := 601) dL_law__601 (vp_in_nI (n := (10 * q) + 1) (by omega) (by omega)) ?_
  refine m_nm (v' := gx g (10 * q + 1)) (rdX (by omega)) ?_
  refine s_aload_n (pc := 602) (i := 0) dL_law__602 rfl rfl ?_
  refine s_iload (pc := 603) (i := 4) dL_law__603 rfl ?_
  refine m_ic (pc := 605) (v := 2) dL_law__605 rfl ?_
  refine s_iadd (pc := 606) dL_law__606 ?_
  refine m_nm (v' := nI ((10 * q) + 2)) (nI_add (10 * q) 2) ?_
  refine s_sld (pc := 607) dL_law__607 (vp_in_nI (n := (10 * q) + 2) (by omega) (by omega)) ?_
  refine m_nm (v' := gx g (10 * q + 2)) (rdX (by omega)) ?_
  refine s_aload_n (pc := 608) (i := 3) dL_law__608 rfl rfl ?_
  refine m_h4 (y' := mL_back) (pc := 609) dL_law__609 ml_L_158 ok_L_back sa_L_back rfl rfl (c_L_back hN (hC g (d + 30) I J n w _ hc hn (fun v1 I1 e1 hc1 f1 => ⟨I1, J, n, w, rfl, kt_s ?_⟩) (fun k1 I1 e1 hc1 f1 => ?_)))
  · refine s_istore (pc := 612) (i := 5) dL_law__612 (Nat.le_of_ble_eq_true rfl) ?_
    dsimp only [List.set, List.filter]
    refine s_aload_n (pc := 614) (i := 2) dL_law__614 rfl rfl ?_
    refine s_aload_n (pc := 615) (i := 0) dL_law__615 rfl rfl ?_
    refine s_iload (pc := 616) (i := 4) dL_law__616 rfl ?_
    refine m_ic (pc := 618) (v := 1) dL_law__618 rfl ?_
    refine s_iadd (pc := 619) dL_law__619 ?_
    refine m_nm (v' := nI ((10 * q) + 1)) (nI_add (10 * q) 1) ?_
    refine s_sld (pc := 620) dL_law__620 (vp_in_nI (n := (10 * q) + 1) (by omega) (by omega)) ?_
    refine m_nm (v' := gx g (10 * q + 1)) (rdX (by omega)) ?_
    refine s_aload_n (pc := 621) (i := 0) dL_law__621 rfl rfl ?_
    refine s_iload (pc := 622) (i := 4) dL_law__622 rfl ?_
    refine m_ic (pc := 624) (v := 2) dL_law__624 rfl ?_
    refine s_iadd (pc := 625) dL_law__625 ?_
    refine m_nm (v' := nI ((10 * q) + 2)) (nI_add (10 * q) 2) ?_
    refine s_sld (pc := 626) dL_law__626 (vp_in_nI (n := (10 * q) + 2) (by omega) (by omega)) ?_
    refine m_nm (v' := gx g (10 * q + 2)) (rdX (by omega)) ?_
    refine m_v2 (pc := 627) dL_law__627 lk_L_161 ok_X12_back (rcO o_534 (by decide) rfl) rfl rfl (hM g (d + 36) I1 (upJ J 560 0 v1.toInt64) n w _ (mI_c hm f1) (fun v2 I2 e2 hm2 f2 h0 => kt_s ?_) (fun k2 I2 e2 _ _ _ => (by rw [e1] at e2; cases e2)))
    · have ev : v1 = v2 := by rw [e1] at e2; cases e2; rfl
      subst ev
      refine s_istore (pc := 630) (i := 6) dL_law__630 (Nat.le_of_ble_eq_true rfl) ?_
      dsimp only [List.set, List.filter]
      refine s_aload_n (pc := 632) (i := 2) dL_law__632 rfl rfl ?_
      refine m_v0 (pc := 633) dL_law__633 lk_L_134 ok_X12_thrown (rcO o_534 (by decide) rfl) rfl rfl (c_X12_thrown h0 (kt_s ?_))
      · refine s_iload (pc := 636) (i := 5) dL_law__636 rfl ?_
        refine s_iceq (pc := 638) (tgt := 643) dL_law__638 rfl (fun h638 => ?_) (fun h638 => absurd h638 (by decide))
        refine s_iload (pc := 643) (i := 5) dL_law__643 rfl ?_
        refine s_ifne (pc := 645) (tgt := 660) dL_law__645 rfl (fun h645 => absurd h645 (by decide)) (fun h645 => ?_)
        refine s_aload_n (pc := 648) (i := 3) dL_law__648 rfl rfl ?_
        refine m_ic (pc := 649) (v := 0) dL_law__649 rfl ?_
        refine m_la (pc := 650) dL_law__650 a_560 (vp_in_nI (n := 0) (by omega) (by decide)) ?_
        refine m_nl (v' := v1.toInt64) (uJ_s) ?_
        refine s_iload (pc := 651) (i := 6) dL_law__651 rfl ?_
        refine s_i2l (pc := 653) dL_law__653 ?_
        refine s_lcmp (pc := 654) dL_law__654 ?_
        refine m_nm (v' := 0) (lg_cc) ?_
        refine s_ifeq (pc := 655) (tgt := 660) dL_law__655 rfl (fun h655 => ?_) (fun h655 => absurd h655 (by decide))
        refine s_goto (pc := 660) (tgt := 2692) dL_law__660 rfl ?_
        exact hK x1 I2 _ n w _ _ _ _ hg1 (cI_m hg1 hc1 f2) hm2 (by omega) (by omega)
  · obtain ⟨c1, ec1, nc1⟩ := hA k1 e1
    refine ⟨c1, ec1, kt_s ?_⟩
    refine s_istore (pc := 612) (i := 5) dL_law__612 (Nat.le_of_ble_eq_true rfl) ?_
    dsimp only [List.set, List.filter]
    refine s_aload_n (pc := 614) (i := 2) dL_law__614 rfl rfl ?_
    refine s_aload_n (pc := 615) (i := 0) dL_law__615 rfl rfl ?_
    refine s_iload (pc := 616) (i := 4) dL_law__616 rfl ?_
    refine m_ic (pc := 618) (v := 1) dL_law__618 rfl ?_
    refine s_iadd (pc := 619) dL_law__619 ?_
    refine m_nm (v' := nI ((10 * q) + 1)) (nI_add (10 * q) 1) ?_
    refine s_sld (pc := 620) dL_law__620 (vp_in_nI (n := (10 * q) + 1) (by omega) (by omega)) ?_
    refine m_nm (v' := gx g (10 * q + 1)) (rdX (by omega)) ?_
    refine s_aload_n (pc := 621) (i := 0) dL_law__621 rfl rfl ?_
    refine s_iload (pc := 622) (i := 4) dL_law__622 rfl ?_
    refine m_ic (pc := 624) (v := 2) dL_law__624 rfl ?_
    refine s_iadd (pc := 625) dL_law__625 ?_
    refine m_nm (v' := nI ((10 * q) + 2)) (nI_add (10 * q) 2) ?_
    refine s_sld (pc := 626) dL_law__626 (vp_in_nI (n := (10 * q) + 2) (by omega) (by omega)) ?_
    refine m_nm (v' := gx g (10 * q + 2)) (rdX (by omega)) ?_
    refine m_v2 (pc := 627) dL_law__627 lk_L_161 ok_X12_back (rcO o_534 (by decide) rfl) rfl rfl (hM g (d + 36) I1 J (n + 1) (w + 6) _ (mI_c hm f1) (fun v2 I2 e2 _ _ _ => (by rw [e1] at e2; cases e2)) (fun k2 I2 e2 hm2 f2 h0 => kt_s ?_))
    · have ek : k1 = k2 := by rw [e1] at e2; cases e2; rfl
      subst ek
      have h0 : I2 534 0 = c1 := h0.trans (by rw [ec1]; rfl)
      refine s_istore (pc := 630) (i := 6) dL_law__630 (Nat.le_of_ble_eq_true rfl) ?_
      dsimp only [List.set, List.filter]
      refine s_aload_n (pc := 632) (i := 2) dL_law__632 rfl rfl ?_
      refine m_v0 (pc := 633) dL_law__633 lk_L_134 ok_X12_thrown (rcO o_534 (by decide) rfl) rfl rfl (c_X12_thrown h0 (kt_s ?_))
      refine s_iload (pc := 636) (i := 5) dL_law__636 rfl ?_
      refine s_iceq (pc := 638) (tgt := 643) dL_law__638 rfl (fun h638 => ?_) (fun h638 => absurd (rfl) h638)
      refine s_iload (pc := 643) (i := 5) dL_law__643 rfl ?_
      refine s_ifne (pc := 645) (tgt := 660) dL_law__645 rfl (fun h645 => ?_) (fun h645 => absurd h645 (nc1))
      refine s_goto (pc := 660) (tgt := 2692) dL_law__660 rfl ?_
      exact hK x1 I2 J (n + 1) (w + 6) _ _ _ _ hg1 (cI_m hg1 hc1 f2) hm2 (by omega) (by omega)
theorem lw_9 {x : gX} {q : Nat} {v5 v6 v7 : Value} (hN : aNx g) (hL : 10 * q + 10 ≤ gL g) (hL2 : gL g ≤ 5120) (hx : gOk x) (hc : cI x I) (hm : mI x I) (hn : n + 1 ≤ 600000 ∧ w + 6 ≤ 7000000) (hK : ∀ (x' : gX) (I' : Nat → Nat → Int32) (J' : Nat → Nat → Int64) (n' w' : Nat) (v5 v6 v7 : Value) (ll : List (Nat × Int64)), gOk x' → cI x' I' → mI x' I' → n' ≤ n + 1 → w' ≤ w + 6 → Rn g (d + 40) mL_law_ 2692 [.ref 0, .ref 1, .ref 534, .ref 560, .int (nI (10 * q)), v5, v6, v7] ll [] (Z I' J' n' w') Q) : Rn g (d + 40) mL_law_ 663 [.ref 0, .ref 1, .ref 534, .ref 560, .int (nI (10 * q)), v5, v6, v7] [] [] (Z I J n w) Q := by
  obtain ⟨x1, A1, hg1, hA, hC, hM⟩ := pr_council (x := gx g (10 * q + 1)) (y := gx g (10 * q + 2)) hx
  refine s_aload_n (pc := 663) (i := 1) dL_law__663 rfl rfl ?_
  refine s_aload_n (pc := 664) (i := 0) dL_law__664 rfl rfl ?_
  refine s_iload (pc := 665) (i := 4) dL_law__665 rfl ?_
  refine m_ic (pc := 667) (v := 1) dL_law__667 rfl ?_
  refine s_iadd (pc := 668) dL_law__668 ?_
  refine m_nm (v' := nI ((10 * q) + 1)) (nI_add (10 * q) 1) ?_
  refine s_sld (pc := 669) dL_law__669 (vp_in_nI (n := (10 * q) + 1) (by omega) (by omega)) ?_
  refine m_nm (v' := gx g (10 * q + 1)) (rdX (by omega)) ?_
  refine s_aload_n (pc := 670) (i := 0) dL_law__670 rfl rfl ?_
  refine s_iload (pc := 671) (i := 4) dL_law__671 rfl ?_
  refine m_ic (pc := 673) (v := 2) dL_law__673 rfl ?_
  refine s_iadd (pc := 674) dL_law__674 ?_
  refine m_nm (v' := nI ((10 * q) + 2)) (nI_add (10 * q) 2) ?_
  refine s_sld (pc := 675) dL_law__675 (vp_in_nI (n := (10 * q) + 2) (by omega) (by omega)) ?_
  refine m_nm (v' := gx g (10 * q + 2)) (rdX (by omega)) ?_
  refine s_aload_n (pc := 676) (i := 3) dL_law__676 rfl rfl ?_
  refine m_h4 (y' := mL_council) (pc := 677) dL_law__677 ml_L_162 ok_L_council sa_L_council rfl rfl (c_L_council hN (hC g (d + 30) I J n w _ hc hn (fun v1 I1 e1 hc1 f1 => ⟨I1, J, n, w, rfl, kt_s ?_⟩) (fun k1 I1 e1 hc1 f1 => ?_)))
  · refine s_istore (pc := 680) (i := 5) dL_law__680 (Nat.le_of_ble_eq_true rfl) ?_
    dsimp only [List.set, List.filter]
    refine s_aload_n (pc := 682) (i := 2) dL_law__682 rfl rfl ?_
    refine s_aload_n (pc := 683) (i := 0) dL_law__683 rfl rfl ?_
    refine s_iload (pc := 684) (i := 4) dL_law__684 rfl ?_
    refine m_ic (pc := 686) (v := 1) dL_law__686 rfl ?_
    refine s_iadd (pc := 687) dL_law__687 ?_
    refine m_nm (v' := nI ((10 * q) + 1)) (nI_add (10 * q) 1) ?_
    refine s_sld (pc := 688) dL_law__688 (vp_in_nI (n := (10 * q) + 1) (by omega) (by omega)) ?_
    refine m_nm (v' := gx g (10 * q + 1)) (rdX (by omega)) ?_
    refine s_aload_n (pc := 689) (i := 0) dL_law__689 rfl rfl ?_
    refine s_iload (pc := 690) (i := 4) dL_law__690 rfl ?_
    refine m_ic (pc := 692) (v := 2) dL_law__692 rfl ?_
    refine s_iadd (pc := 693) dL_law__693 ?_
    refine m_nm (v' := nI ((10 * q) + 2)) (nI_add (10 * q) 2) ?_
    refine s_sld (pc := 694) dL_law__694 (vp_in_nI (n := (10 * q) + 2) (by omega) (by omega)) ?_
    refine m_nm (v' := gx g (10 * q + 2)) (rdX (by omega)) ?_
    refine m_v2 (pc := 695) dL_law__695 lk_L_164 ok_X12_council (rcO o_534 (by decide) rfl) rfl rfl (hM g (d + 36) I1 (upJ J 560 0 v1.toInt64) n w _ (mI_c hm f1) (fun v2 I2 e2 hm2 f2 h0 => kt_s ?_) (fun k2 I2 e2 _ _ _ => (by rw [e1] at e2; cases e2)))
    · have ev : v1 = v2 := by rw [e1] at e2; cases e2; rfl
      subst ev
      refine s_istore (pc := 698) (i := 6) dL_law__698 (Nat.le_of_ble_eq_true rfl) ?_
      dsimp only [List.set, List.filter]
      refine s_aload_n (pc := 700) (i := 2) dL_law__700 rfl rfl ?_
      refine m_v0 (pc := 701) dL_law__701 lk_L_134 ok_X12_thrown (rcO o_534 (by decide) rfl) rfl rfl (c_X12_thrown h0 (kt_s ?_))
      · refine s_iload (pc := 704) (i := 5) dL_law__704 rfl ?_
        refine s_iceq (pc := 706) (tgt := 711) dL_law__706 rfl (fun h706 => ?_) (fun h706 => absurd h706 (by decide))
        refine s_iload (pc := 711) (i := 5) dL_law__711 rfl ?_
        refine s_ifne (pc := 713) (tgt := 728) dL_law__713 rfl (fun h713 => absurd h713 (by decide)) (fun h713 => ?_)
        refine s_aload_n (pc := 716) (i := 3) dL_law__716 rfl rfl ?_
        refine m_ic (pc := 717) (v := 0) dL_law__717 rfl ?_
        refine m_la (pc := 718) dL_law__718 a_560 (vp_in_nI (n := 0) (by omega) (by decide)) ?_
        refine m_nl (v' := v1.toInt64) (uJ_s) ?_
        refine s_iload (pc := 719) (i := 6) dL_law__719 rfl ?_
        refine s_i2l (pc := 721) dL_law__721 ?_
        refine s_lcmp (pc := 722) dL_law__722 ?_
        refine m_nm (v' := 0) (lg_cc) ?_
        refine s_ifeq (pc := 723) (tgt := 728) dL_law__723 rfl (fun h723 => ?_) (fun h723 => absurd h723 (by decide))
        refine s_goto (pc := 728) (tgt := 2692) dL_law__728 rfl ?_
        exact hK x1 I2 _ n w _ _ _ _ hg1 (cI_m hg1 hc1 f2) hm2 (by omega) (by omega)
  · obtain ⟨c1, ec1, nc1⟩ := hA k1 e1
    refine ⟨c1, ec1, kt_s ?_⟩
    refine s_istore (pc := 680) (i := 5) dL_law__680 (Nat.le_of_ble_eq_true rfl) ?_
    dsimp only [List.set, List.filter]
    refine s_aload_n (pc := 682) (i := 2) dL_law__682 rfl rfl ?_
    refine s_aload_n (pc := 683) (i := 0) dL_law__683 rfl rfl ?_
    refine s_iload (pc := 684) (i := 4) dL_law__684 rfl ?_
    refine m_ic (pc := 686) (v := 1) dL_law__686 rfl ?_
    refine s_iadd (pc := 687) dL_law__687 ?_
    refine m_nm (v' := nI ((10 * q) + 1)) (nI_add (10 * q) 1) ?_
    refine s_sld (pc := 688) dL_law__688 (vp_in_nI (n := (10 * q) + 1) (by omega) (by omega)) ?_
    refine m_nm (v' := gx g (10 * q + 1)) (rdX (by omega)) ?_
    refine s_aload_n (pc := 689) (i := 0) dL_law__689 rfl rfl ?_
    refine s_iload (pc := 690) (i := 4) dL_law__690 rfl ?_
    refine m_ic (pc := 692) (v := 2) dL_law__692 rfl ?_
    refine s_iadd (pc := 693) dL_law__693 ?_
    refine m_nm (v' := nI ((10 * q) + 2)) (nI_add (10 * q) 2) ?_
    refine s_sld (pc := 694) dL_law__694 (vp_in_nI (n := (10 * q) + 2) (by omega) (by omega)) ?_
    refine m_nm (v' := gx g (10 * q + 2)) (rdX (by omega)) ?_
    refine m_v2 (pc := 695) dL_law__695 lk_L_164 ok_X12_council (rcO o_534 (by decide) rfl) rfl rfl (hM g (d + 36) I1 J (n + 1) (w + 6) _ (mI_c hm f1) (fun v2 I2 e2 _ _ _ => (by rw [e1] at e2; cases e2)) (fun k2 I2 e2 hm2 f2 h0 => kt_s ?_))
    · have ek : k1 = k2 := by rw [e1] at e2; cases e2; rfl
      subst ek
      have h0 : I2 534 0 = c1 := h0.trans (by rw [ec1]; rfl)
      refine s_istore (pc := 698) (i := 6) dL_law__698 (Nat.le_of_ble_eq_true rfl) ?_
      dsimp only [List.set, List.filter]
      refine s_aload_n (pc := 700) (i := 2) dL_law__700 rfl rfl ?_
      refine m_v0 (pc := 701) dL_law__701 lk_L_134 ok_X12_thrown (rcO o_534 (by decide) rfl) rfl rfl (c_X12_thrown h0 (kt_s ?_))
      refine s_iload (pc := 704) (i := 5) dL_law__704 rfl ?_
      refine s_iceq (pc := 706) (tgt := 711) dL_law__706 rfl (fun h706 => ?_) (fun h706 => absurd (rfl) h706)
      refine s_iload (pc := 711) (i := 5) dL_law__711 rfl ?_
      refine s_ifne (pc := 713) (tgt := 728) dL_law__713 rfl (fun h713 => ?_) (fun h713 => absurd h713 (nc1))
      refine s_goto (pc := 728) (tgt := 2692) dL_law__728 rfl ?_
      exact hK x1 I2 J (n + 1) (w + 6) _ _ _ _ hg1 (cI_m hg1 hc1 f2) hm2 (by omega) (by omega)
theorem lw_10 {x : gX} {q : Nat} {v5 v6 v7 : Value} (hN : aNx g) (hL : 10 * q + 10 ≤ gL g) (hL2 : gL g ≤ 5120) (hx : gOk x) (hc : cI x I) (hm : mI x I) (hn : n + 1 ≤ 600000 ∧ w + 6 ≤ 7000000) (hK : ∀ (x' : gX) (I' : Nat → Nat → Int32) (J' : Nat → Nat → Int64) (n' w' : Nat) (v5 v6 v7 : Value) (ll : List (Nat × Int64)), gOk x' → cI x' I' → mI x' I' → n' ≤ n + 1 → w' ≤ w + 6 → Rn g (d + 40) mL_law_ 2692 [.ref 0, .ref 1, .ref 534, .ref 560, .int (nI (10 * q)), v5, v6, v7] ll [] (Z I' J' n' w') Q) : Rn g (d + 40) mL_law_ 731 [.ref 0, .ref 1, .ref 534, .ref 560, .int (nI (10 * q)), v5, v6, v7] [] [] (Z I J n w) Q := by
  obtain ⟨x1, A1, hg1, hA, hC, hM⟩ := pr_hearing (x := gx g (10 * q + 1)) (y := gx g (10 * q + 2)) hx
  refine s_aload_n (pc := 731) (i := 1) dL_law__731 rfl rfl ?_
  refine s_aload_n (pc := 732) (i := 0) dL_law__732 rfl rfl ?_
  refine s_iload (pc := 733) (i := 4) dL_law__733 rfl ?_
  refine m_ic (pc := 735) (v := 1) dL_law__735 rfl ?_
  refine s_iadd (pc := 736) dL_law__736 ?_
  refine m_nm (v' := nI ((10 * q) + 1)) (nI_add (10 * q) 1) ?_
  refine s_sld (pc := 737) dL_law__737 (vp_in_nI (n := (10 * q) + 1) (by omega) (by omega)) ?_
  refine m_nm (v' := gx g (10 * q + 1)) (rdX (by omega)) ?_
  refine s_aload_n (pc := 738) (i := 0) dL_law__738 rfl rfl ?_
  refine s_iload (pc := 739) (i := 4) dL_law__739 rfl ?_
  refine m_ic (pc := 741) (v := 2) dL_law__741 rfl ?_
  refine s_iadd (pc := 742) dL_law__742 ?_
  refine m_nm (v' := nI ((10 * q) + 2)) (nI_add (10 * q) 2) ?_
  refine s_sld (pc := 743) dL_law__743 (vp_in_nI (n := (10 * q) + 2) (by omega) (by omega)) ?_
  refine m_nm (v' := gx g (10 * q + 2)) (rdX (by omega)) ?_
  refine s_aload_n (pc := 744) (i := 3) dL_law__744 rfl rfl ?_
  refine m_h4 (y' := mL_hearing) (pc := 745) dL_law__745 ml_L_165 ok_L_hearing sa_L_hearing rfl rfl (c_L_hearing hN (hC g (d + 30) I J n w _ hc hn (fun v1 I1 e1 hc1 f1 => ⟨I1, J, n, w, rfl, kt_s ?_⟩) (fun k1 I1 e1 hc1 f1 => ?_)))
  · refine s_istore (pc := 748) (i := 5) dL_law__748 (Nat.le_of_ble_eq_true rfl) ?_
    dsimp only [List.set, List.filter]
    refine s_aload_n (pc := 750) (i := 2) dL_law__750 rfl rfl ?_
    refine s_aload_n (pc := 751) (i := 0) dL_law__751 rfl rfl ?_
    refine s_iload (pc := 752) (i := 4) dL_law__752 rfl ?_
    refine m_ic (pc := 754) (v := 1) dL_law__754 rfl ?_
    refine s_iadd (pc := 755) dL_law__755 ?_
    refine m_nm (v' := nI ((10 * q) + 1)) (nI_add (10 * q) 1) ?_
    refine s_sld (pc := 756) dL_law__756 (vp_in_nI (n := (10 * q) + 1) (by omega) (by omega)) ?_
    refine m_nm (v' := gx g (10 * q + 1)) (rdX (by omega)) ?_
    refine s_aload_n (pc := 757) (i := 0) dL_law__757 rfl rfl ?_
    refine s_iload (pc := 758) (i := 4) dL_law__758 rfl ?_
    refine m_ic (pc := 760) (v := 2) dL_law__760 rfl ?_
    refine s_iadd (pc := 761) dL_law__761 ?_
    refine m_nm (v' := nI ((10 * q) + 2)) (nI_add (10 * q) 2) ?_
    refine s_sld (pc := 762) dL_law__762 (vp_in_nI (n := (10 * q) + 2) (by omega) (by omega)) ?_
    refine m_nm (v' := gx g (10 * q + 2)) (rdX (by omega)) ?_
    refine m_v2 (pc := 763) dL_law__763 lk_L_167 ok_X12_hearing (rcO o_534 (by decide) rfl) rfl rfl (hM g (d + 36) I1 (upJ J 560 0 v1.toInt64) n w _ (mI_c hm f1) (fun v2 I2 e2 hm2 f2 h0 => kt_s ?_) (fun k2 I2 e2 _ _ _ => (by rw [e1] at e2; cases e2)))
    · have ev : v1 = v2 := by rw [e1] at e2; cases e2; rfl
      subst ev
      refine s_istore (pc := 766) (i := 6) dL_law__766 (Nat.le_of_ble_eq_true rfl) ?_
      dsimp only [List.set, List.filter]
      refine s_aload_n (pc := 768) (i := 2) dL_law__768 rfl rfl ?_
      refine m_v0 (pc := 769) dL_law__769 lk_L_134 ok_X12_thrown (rcO o_534 (by decide) rfl) rfl rfl (c_X12_thrown h0 (kt_s ?_))
      · refine s_iload (pc := 772) (i := 5) dL_law__772 rfl ?_
        refine s_iceq (pc := 774) (tgt := 779) dL_law__774 rfl (fun h774 => ?_) (fun h774 => absurd h774 (by decide))
        refine s_iload (pc := 779) (i := 5) dL_law__779 rfl ?_
        refine s_ifne (pc := 781) (tgt := 796) dL_law__781 rfl (fun h781 => absurd h781 (by decide)) (fun h781 => ?_)
        refine s_aload_n (pc := 784) (i := 3) dL_law__784 rfl rfl ?_
        refine m_ic (pc := 785) (v := 0) dL_law__785 rfl ?_
        refine m_la (pc := 786) dL_law__786 a_560 (vp_in_nI (n := 0) (by omega) (by decide)) ?_
        refine m_nl (v' := v1.toInt64) (uJ_s) ?_
        refine s_iload (pc := 787) (i := 6) dL_law__787 rfl ?_
        refine s_i2l (pc := 789) dL_law__789 ?_
        refine s_lcmp (pc := 790) dL_law__790 ?_
        refine m_nm (v' := 0) (lg_cc) ?_
        refine s_ifeq (pc := 791) (tgt := 796) dL_law__791 rfl (fun h791 => ?_) (fun h791 => absurd h791 (by decide))
        refine s_goto (pc := 796) (tgt := 2692) dL_law__796 rfl ?_
        exact hK x1 I2 _ n w _ _ _ _ hg1 (cI_m hg1 hc1 f2) hm2 (by omega) (by omega)
  · obtain ⟨c1, ec1, nc1⟩ := hA k1 e1
    refine ⟨c1, ec1, kt_s ?_⟩
    refine s_istore (pc := 748) (i := 5) dL_law__748 (Nat.le_of_ble_eq_true rfl) ?_
    dsimp only [List.set, List.filter]
    refine s_aload_n (pc := 750) (i := 2) dL_law__750 rfl rfl ?_
    refine s_aload_n (pc := 751) (i := 0) dL_law__751 rfl rfl ?_
    refine s_iload (pc := 752) (i := 4) dL_law__752 rfl ?_
    refine m_ic (pc := 754) (v := 1) dL_law__754 rfl ?_
    refine s_iadd (pc := 755) dL_law__755 ?_
    refine m_nm (v' := nI ((10 * q) + 1)) (nI_add (10 * q) 1) ?_
    refine s_sld (pc := 756) dL_law__756 (vp_in_nI (n := (10 * q) + 1) (by omega) (by omega)) ?_
    refine m_nm (v' := gx g (10 * q + 1)) (rdX (by omega)) ?_
    refine s_aload_n (pc := 757) (i := 0) dL_law__757 rfl rfl ?_
    refine s_iload (pc := 758) (i := 4) dL_law__758 rfl ?_
    refine m_ic (pc := 760) (v := 2) dL_law__760 rfl ?_
    refine s_iadd (pc := 761) dL_law__761 ?_
    refine m_nm (v' := nI ((10 * q) + 2)) (nI_add (10 * q) 2) ?_
    refine s_sld (pc := 762) dL_law__762 (vp_in_nI (n := (10 * q) + 2) (by omega) (by omega)) ?_
    refine m_nm (v' := gx g (10 * q + 2)) (rdX (by omega)) ?_
    refine m_v2 (pc := 763) dL_law__763 lk_L_167 ok_X12_hearing (rcO o_534 (by decide) rfl) rfl rfl (hM g (d + 36) I1 J (n + 1) (w + 6) _ (mI_c hm f1) (fun v2 I2 e2 _ _ _ => (by rw [e1] at e2; cases e2)) (fun k2 I2 e2 hm2 f2 h0 => kt_s ?_))
    · have ek : k1 = k2 := by rw [e1] at e2; cases e2; rfl
      subst ek
      have h0 : I2 534 0 = c1 := h0.trans (by rw [ec1]; rfl)
      refine s_istore (pc := 766) (i := 6) dL_law__766 (Nat.le_of_ble_eq_true rfl) ?_
      dsimp only [List.set, List.filter]
      refine s_aload_n (pc := 768) (i := 2) dL_law__768 rfl rfl ?_
      refine m_v0 (pc := 769) dL_law__769 lk_L_134 ok_X12_thrown (rcO o_534 (by decide) rfl) rfl rfl (c_X12_thrown h0 (kt_s ?_))
      refine s_iload (pc := 772) (i := 5) dL_law__772 rfl ?_
      refine s_iceq (pc := 774) (tgt := 779) dL_law__774 rfl (fun h774 => ?_) (fun h774 => absurd (rfl) h774)
      refine s_iload (pc := 779) (i := 5) dL_law__779 rfl ?_
      refine s_ifne (pc := 781) (tgt := 796) dL_law__781 rfl (fun h781 => ?_) (fun h781 => absurd h781 (nc1))
      refine s_goto (pc := 796) (tgt := 2692) dL_law__796 rfl ?_
      exact hK x1 I2 J (n + 1) (w + 6) _ _ _ _ hg1 (cI_m hg1 hc1 f2) hm2 (by omega) (by omega)
theorem lw_11 {x : gX} {q : Nat} {v5 v6 v7 : Value} (hN : aNx g) (hL : 10 * q + 10 ≤ gL g) (hL2 : gL g ≤ 5120) (hx : gOk x) (hc : cI x I) (hm : mI x I) (hn : n + 1 ≤ 600000 ∧ w + 6 ≤ 7000000) (hK : ∀ (x' : gX) (I' : Nat → Nat → Int32) (J' : Nat → Nat → Int64) (n' w' : Nat) (v5 v6 v7 : Value) (ll : List (Nat × Int64)), gOk x' → cI x' I' → mI x' I' → n' ≤ n + 1 → w' ≤ w + 6 → Rn g (d + 40) mL_law_ 2692 [.ref 0, .ref 1, .ref 534, .ref 560, .int (nI (10 * q)), v5, v6, v7] ll [] (Z I' J' n' w') Q) : Rn g (d + 40) mL_law_ 799 [.ref 0, .ref 1, .ref 534, .ref 560, .int (nI (10 * q)), v5, v6, v7] [] [] (Z I J n w) Q := by
  obtain ⟨x1, A1, hg1, hA, hC, hM⟩ := pr_load (x := gx g (10 * q + 1)) (y := gx g (10 * q + 2)) hx
  refine s_aload_n (pc := 799) (i := 1) dL_law__799 rfl rfl ?_
  refine s_aload_n (pc := 800) (i := 0) dL_law__800 rfl rfl ?_
  refine s_iload (pc := 801) (i := 4) dL_law__801 rfl ?_
  refine m_ic (pc := 803) (v := 1) dL_law__803 rfl ?_
  refine s_iadd (pc := 804) dL_law__804 ?_
  refine m_nm (v' := nI ((10 * q) + 1)) (nI_add (10 * q) 1) ?_
  refine s_sld (pc := 805) dL_law__805 (vp_in_nI (n := (10 * q) + 1) (by omega) (by omega)) ?_
  refine m_nm (v' := gx g (10 * q + 1)) (rdX (by omega)) ?_
  refine s_aload_n (pc := 806) (i := 0) dL_law__806 rfl rfl ?_
  refine s_iload (pc := 807) (i := 4) dL_law__807 rfl ?_
  refine m_ic (pc := 809) (v := 2) dL_law__809 rfl ?_
  refine s_iadd (pc := 810) dL_law__810 ?_
  refine m_nm (v' := nI ((10 * q) + 2)) (nI_add (10 * q) 2) ?_
  refine s_sld (pc := 811) dL_law__811 (vp_in_nI (n := (10 * q) + 2) (by omega) (by omega)) ?_
  refine m_nm (v' := gx g (10 * q + 2)) (rdX (by omega)) ?_
  refine s_aload_n (pc := 812) (i := 3) dL_law__812 rfl rfl ?_
  refine m_h4 (y' := mL_load) (pc := 813) dL_law__813 ml_L_168 ok_L_load sa_L_load rfl rfl (c_L_load hN (hC g (d + 30) I J n w _ hc hn (fun v1 I1 e1 hc1 f1 => ⟨I1, J, n, w, rfl, kt_s ?_⟩) (fun k1 I1 e1 hc1 f1 => ?_)))
  · refine s_istore (pc := 816) (i := 5) dL_law__816 (Nat.le_of_ble_eq_true rfl) ?_
    dsimp only [List.set, List.filter]
    refine s_aload_n (pc := 818) (i := 2) dL_law__818 rfl rfl ?_
    refine s_aload_n (pc := 819) (i := 0) dL_law__819 rfl rfl ?_
    refine s_iload (pc := 820) (i := 4) dL_law__820 rfl ?_
    refine m_ic (pc := 822) (v := 1) dL_law__822 rfl ?_
    refine s_iadd (pc := 823) dL_law__823 ?_
    refine m_nm (v' := nI ((10 * q) + 1)) (nI_add (10 * q) 1) ?_
    refine s_sld (pc := 824) dL_law__824 (vp_in_nI (n := (10 * q) + 1) (by omega) (by omega)) ?_
    refine m_nm (v' := gx g (10 * q + 1)) (rdX (by omega)) ?_
    refine s_aload_n (pc := 825) (i := 0) dL_law__825 rfl rfl ?_
    refine s_iload (pc := 826) (i := 4) dL_law__826 rfl ?_
    refine m_ic (pc := 828) (v := 2) dL_law__828 rfl ?_
    refine s_iadd (pc := 829) dL_law__829 ?_
    refine m_nm (v' := nI ((10 * q) + 2)) (nI_add (10 * q) 2) ?_
    refine s_sld (pc := 830) dL_law__830 (vp_in_nI (n := (10 * q) + 2) (by omega) (by omega)) ?_
    refine m_nm (v' := gx g (10 * q + 2)) (rdX (by omega)) ?_
    refine m_v2 (pc := 831) dL_law__831 lk_L_170 ok_X12_load (rcO o_534 (by decide) rfl) rfl rfl (hM g (d + 32) I1 (upJ J 560 0 v1.toInt64) n w _ (mI_c hm f1) (fun v2 I2 e2 hm2 f2 h0 => kt_s ?_) (fun k2 I2 e2 _ _ _ => (by rw [e1] at e2; cases e2)))
    · have ev : v1 = v2 := by rw [e1] at e2; cases e2; rfl
      subst ev
      refine s_istore (pc := 834) (i := 6) dL_law__834 (Nat.le_of_ble_eq_true rfl) ?_
      dsimp only [List.set, List.filter]
      refine s_aload_n (pc := 836) (i := 2) dL_law__836 rfl rfl ?_
      refine m_v0 (pc := 837) dL_law__837 lk_L_134 ok_X12_thrown (rcO o_534 (by decide) rfl) rfl rfl (c_X12_thrown h0 (kt_s ?_))
      · refine s_iload (pc := 840) (i := 5) dL_law__840 rfl ?_
        refine s_iceq (pc := 842) (tgt := 847) dL_law__842 rfl (fun h842 => ?_) (fun h842 => absurd h842 (by decide))
        refine s_iload (pc := 847) (i := 5) dL_law__847 rfl ?_
        refine s_ifne (pc := 849) (tgt := 864) dL_law__849 rfl (fun h849 => absurd h849 (by decide)) (fun h849 => ?_)
        refine s_aload_n (pc := 852) (i := 3) dL_law__852 rfl rfl ?_
        refine m_ic (pc := 853) (v := 0) dL_law__853 rfl ?_
        refine m_la (pc := 854) dL_law__854 a_560 (vp_in_nI (n := 0) (by omega) (by decide)) ?_
        refine m_nl (v' := v1.toInt64) (uJ_s) ?_
        refine s_iload (pc := 855) (i := 6) dL_law__855 rfl ?_
        refine s_i2l (pc := 857) dL_law__857 ?_
        refine s_lcmp (pc := 858) dL_law__858 ?_
        refine m_nm (v' := 0) (lg_cc) ?_
        refine s_ifeq (pc := 859) (tgt := 864) dL_law__859 rfl (fun h859 => ?_) (fun h859 => absurd h859 (by decide))
        refine s_goto (pc := 864) (tgt := 2692) dL_law__864 rfl ?_
        exact hK x1 I2 _ n w _ _ _ _ hg1 (cI_m hg1 hc1 f2) hm2 (by omega) (by omega)
  · obtain ⟨c1, ec1, nc1⟩ := hA k1 e1
    refine ⟨c1, ec1, kt_s ?_⟩
    refine s_istore (pc := 816) (i := 5) dL_law__816 (Nat.le_of_ble_eq_true rfl) ?_
    dsimp only [List.set, List.filter]
    refine s_aload_n (pc := 818) (i := 2) dL_law__818 rfl rfl ?_
    refine s_aload_n (pc := 819) (i := 0) dL_law__819 rfl rfl ?_
    refine s_iload (pc := 820) (i := 4) dL_law__820 rfl ?_
    refine m_ic (pc := 822) (v := 1) dL_law__822 rfl ?_
    refine s_iadd (pc := 823) dL_law__823 ?_
    refine m_nm (v' := nI ((10 * q) + 1)) (nI_add (10 * q) 1) ?_
    refine s_sld (pc := 824) dL_law__824 (vp_in_nI (n := (10 * q) + 1) (by omega) (by omega)) ?_
    refine m_nm (v' := gx g (10 * q + 1)) (rdX (by omega)) ?_
    refine s_aload_n (pc := 825) (i := 0) dL_law__825 rfl rfl ?_
    refine s_iload (pc := 826) (i := 4) dL_law__826 rfl ?_
    refine m_ic (pc := 828) (v := 2) dL_law__828 rfl ?_
    refine s_iadd (pc := 829) dL_law__829 ?_
    refine m_nm (v' := nI ((10 * q) + 2)) (nI_add (10 * q) 2) ?_
    refine s_sld (pc := 830) dL_law__830 (vp_in_nI (n := (10 * q) + 2) (by omega) (by omega)) ?_
    refine m_nm (v' := gx g (10 * q + 2)) (rdX (by omega)) ?_
    refine m_v2 (pc := 831) dL_law__831 lk_L_170 ok_X12_load (rcO o_534 (by decide) rfl) rfl rfl (hM g (d + 32) I1 J (n + 1) (w + 6) _ (mI_c hm f1) (fun v2 I2 e2 _ _ _ => (by rw [e1] at e2; cases e2)) (fun k2 I2 e2 hm2 f2 h0 => kt_s ?_))
    · have ek : k1 = k2 := by rw [e1] at e2; cases e2; rfl
      subst ek
      have h0 : I2 534 0 = c1 := h0.trans (by rw [ec1]; rfl)
      refine s_istore (pc := 834) (i := 6) dL_law__834 (Nat.le_of_ble_eq_true rfl) ?_
      dsimp only [List.set, List.filter]
      refine s_aload_n (pc := 836) (i := 2) dL_law__836 rfl rfl ?_
      refine m_v0 (pc := 837) dL_law__837 lk_L_134 ok_X12_thrown (rcO o_534 (by decide) rfl) rfl rfl (c_X12_thrown h0 (kt_s ?_))
      refine s_iload (pc := 840) (i := 5) dL_law__840 rfl ?_
      refine s_iceq (pc := 842) (tgt := 847) dL_law__842 rfl (fun h842 => ?_) (fun h842 => absurd (rfl) h842)
      refine s_iload (pc := 847) (i := 5) dL_law__847 rfl ?_
      refine s_ifne (pc := 849) (tgt := 864) dL_law__849 rfl (fun h849 => ?_) (fun h849 => absurd h849 (nc1))
      refine s_goto (pc := 864) (tgt := 2692) dL_law__864 rfl ?_
      exact hK x1 I2 J (n + 1) (w + 6) _ _ _ _ hg1 (cI_m hg1 hc1 f2) hm2 (by omega) (by omega)
theorem lw_12 {x : gX} {q : Nat} {v5 v6 v7 : Value} (hN : aNx g) (hL : 10 * q + 10 ≤ gL g) (hL2 : gL g ≤ 5120) (hx : gOk x) (hc : cI x I) (hm : mI x I) (hn : n + 1 ≤ 600000 ∧ w + 6 ≤ 7000000) (hK : ∀ (x' : gX) (I' : Nat → Nat → Int32) (J' : Nat → Nat → Int64) (n' w' : Nat) (v5 v6 v7 : Value) (ll : List (Nat × Int64)), gOk x' → cI x' I' → mI x' I' → n' ≤ n + 1 → w' ≤ w + 6 → Rn g (d + 40) mL_law_ 2692 [.ref 0, .ref 1, .ref 534, .ref 560, .int (nI (10 * q)), v5, v6, v7] ll [] (Z I' J' n' w') Q) : Rn g (d + 40) mL_law_ 867 [.ref 0, .ref 1, .ref 534, .ref 560, .int (nI (10 * q)), v5, v6, v7] [] [] (Z I J n w) Q := by
  obtain ⟨x1, A1, hg1, hA, hC, hM⟩ := pr_burden (x := gx g (10 * q + 1)) (y := gx g (10 * q + 2)) hx
  refine s_aload_n (pc := 867) (i := 1) dL_law__867 rfl rfl ?_
  refine s_aload_n (pc := 868) (i := 0) dL_law__868 rfl rfl ?_
  refine s_iload (pc := 869) (i := 4) dL_law__869 rfl ?_
  refine m_ic (pc := 871) (v := 1) dL_law__871 rfl ?_
  refine s_iadd (pc := 872) dL_law__872 ?_
  refine m_nm (v' := nI ((10 * q) + 1)) (nI_add (10 * q) 1) ?_
  refine s_sld (pc := 873) dL_law__873 (vp_in_nI (n := (10 * q) + 1) (by omega) (by omega)) ?_
  refine m_nm (v' := gx g (10 * q + 1)) (rdX (by omega)) ?_
  refine s_aload_n (pc := 874) (i := 0) dL_law__874 rfl rfl ?_
  refine s_iload (pc := 875) (i := 4) dL_law__875 rfl ?_
  refine m_ic (pc := 877) (v := 2) dL_law__877 rfl ?_
  refine s_iadd (pc := 878) dL_law__878 ?_
  refine m_nm (v' := nI ((10 * q) + 2)) (nI_add (10 * q) 2) ?_
  refine s_sld (pc := 879) dL_law__879 (vp_in_nI (n := (10 * q) + 2) (by omega) (by omega)) ?_
  refine m_nm (v' := gx g (10 * q + 2)) (rdX (by omega)) ?_
  refine s_aload_n (pc := 880) (i := 3) dL_law__880 rfl rfl ?_
  refine m_h4 (y' := mL_burden) (pc := 881) dL_law__881 ml_L_171 ok_L_burden sa_L_burden rfl rfl (c_L_burden hN (hC g (d + 30) I J n w _ hc hn (fun v1 I1 e1 hc1 f1 => ⟨I1, J, n, w, rfl, kt_s ?_⟩) (fun k1 I1 e1 hc1 f1 => ?_)))
  · refine s_istore (pc := 884) (i := 5) dL_law__884 (Nat.le_of_ble_eq_true rfl) ?_
    dsimp only [List.set, List.filter]
    refine s_aload_n (pc := 886) (i := 2) dL_law__886 rfl rfl ?_
    refine s_aload_n (pc := 887) (i := 0) dL_law__887 rfl rfl ?_
    refine s_iload (pc := 888) (i := 4) dL_law__888 rfl ?_
    refine m_ic (pc := 890) (v := 1) dL_law__890 rfl ?_
    refine s_iadd (pc := 891) dL_law__891 ?_
    refine m_nm (v' := nI ((10 * q) + 1)) (nI_add (10 * q) 1) ?_
    refine s_sld (pc := 892) dL_law__892 (vp_in_nI (n := (10 * q) + 1) (by omega) (by omega)) ?_
    refine m_nm (v' := gx g (10 * q + 1)) (rdX (by omega)) ?_
    refine s_aload_n (pc := 893) (i := 0) dL_law__893 rfl rfl ?_
    refine s_iload (pc := 894) (i := 4) dL_law__894 rfl ?_
    refine m_ic (pc := 896) (v := 2) dL_law__896 rfl ?_
    refine s_iadd (pc := 897) dL_law__897 ?_
    refine m_nm (v' := nI ((10 * q) + 2)) (nI_add (10 * q) 2) ?_
    refine s_sld (pc := 898) dL_law__898 (vp_in_nI (n := (10 * q) + 2) (by omega) (by omega)) ?_
    refine m_nm (v' := gx g (10 * q + 2)) (rdX (by omega)) ?_
    refine m_v2 (pc := 899) dL_law__899 lk_L_173 ok_X12_burden (rcO o_534 (by decide) rfl) rfl rfl (hM g (d + 32) I1 (upJ J 560 0 v1.toInt64) n w _ (mI_c hm f1) (fun v2 I2 e2 hm2 f2 h0 => kt_s ?_) (fun k2 I2 e2 _ _ _ => (by rw [e1] at e2; cases e2)))
    · have ev : v1 = v2 := by rw [e1] at e2; cases e2; rfl
      subst ev
      refine s_istore (pc := 902) (i := 6) dL_law__902 (Nat.le_of_ble_eq_true rfl) ?_
      dsimp only [List.set, List.filter]
      refine s_aload_n (pc := 904) (i := 2) dL_law__904 rfl rfl ?_
      refine m_v0 (pc := 905) dL_law__905 lk_L_134 ok_X12_thrown (rcO o_534 (by decide) rfl) rfl rfl (c_X12_thrown h0 (kt_s ?_))
      · refine s_iload (pc := 908) (i := 5) dL_law__908 rfl ?_
        refine s_iceq (pc := 910) (tgt := 915) dL_law__910 rfl (fun h910 => ?_) (fun h910 => absurd h910 (by decide))
        refine s_iload (pc := 915) (i := 5) dL_law__915 rfl ?_
        refine s_ifne (pc := 917) (tgt := 932) dL_law__917 rfl (fun h917 => absurd h917 (by decide)) (fun h917 => ?_)
        refine s_aload_n (pc := 920) (i := 3) dL_law__920 rfl rfl ?_
        refine m_ic (pc := 921) (v := 0) dL_law__921 rfl ?_
        refine m_la (pc := 922) dL_law__922 a_560 (vp_in_nI (n := 0) (by omega) (by decide)) ?_
        refine m_nl (v' := v1.toInt64) (uJ_s) ?_
        refine s_iload (pc := 923) (i := 6) dL_law__923 rfl ?_
        refine s_i2l (pc := 925) dL_law__925 ?_
        refine s_lcmp (pc := 926) dL_law__926 ?_
        refine m_nm (v' := 0) (lg_cc) ?_
        refine s_ifeq (pc := 927) (tgt := 932) dL_law__927 rfl (fun h927 => ?_) (fun h927 => absurd h927 (by decide))
        refine s_goto (pc := 932) (tgt := 2692) dL_law__932 rfl ?_
        exact hK x1 I2 _ n w _ _ _ _ hg1 (cI_m hg1 hc1 f2) hm2 (by omega) (by omega)
  · obtain ⟨c1, ec1, nc1⟩ := hA k1 e1
    refine ⟨c1, ec1, kt_s ?_⟩
    refine s_istore (pc := 884) (i := 5) dL_law__884 (Nat.le_of_ble_eq_true rfl) ?_
    dsimp only [List.set, List.filter]
    refine s_aload_n (pc := 886) (i := 2) dL_law__886 rfl rfl ?_
    refine s_aload_n (pc := 887) (i := 0) dL_law__887 rfl rfl ?_
    refine s_iload (pc := 888) (i := 4) dL_law__888 rfl ?_
    refine m_ic (pc := 890) (v := 1) dL_law__890 rfl ?_
    refine s_iadd (pc := 891) dL_law__891 ?_
    refine m_nm (v' := nI ((10 * q) + 1)) (nI_add (10 * q) 1) ?_
    refine s_sld (pc := 892) dL_law__892 (vp_in_nI (n := (10 * q) + 1) (by omega) (by omega)) ?_
    refine m_nm (v' := gx g (10 * q + 1)) (rdX (by omega)) ?_
    refine s_aload_n (pc := 893) (i := 0) dL_law__893 rfl rfl ?_
    refine s_iload (pc := 894) (i := 4) dL_law__894 rfl ?_
    refine m_ic (pc := 896) (v := 2) dL_law__896 rfl ?_
    refine s_iadd (pc := 897) dL_law__897 ?_
    refine m_nm (v' := nI ((10 * q) + 2)) (nI_add (10 * q) 2) ?_
    refine s_sld (pc := 898) dL_law__898 (vp_in_nI (n := (10 * q) + 2) (by omega) (by omega)) ?_
    refine m_nm (v' := gx g (10 * q + 2)) (rdX (by omega)) ?_
    refine m_v2 (pc := 899) dL_law__899 lk_L_173 ok_X12_burden (rcO o_534 (by decide) rfl) rfl rfl (hM g (d + 32) I1 J (n + 1) (w + 6) _ (mI_c hm f1) (fun v2 I2 e2 _ _ _ => (by rw [e1] at e2; cases e2)) (fun k2 I2 e2 hm2 f2 h0 => kt_s ?_))
    · have ek : k1 = k2 := by rw [e1] at e2; cases e2; rfl
      subst ek
      have h0 : I2 534 0 = c1 := h0.trans (by rw [ec1]; rfl)
      refine s_istore (pc := 902) (i := 6) dL_law__902 (Nat.le_of_ble_eq_true rfl) ?_
      dsimp only [List.set, List.filter]
      refine s_aload_n (pc := 904) (i := 2) dL_law__904 rfl rfl ?_
      refine m_v0 (pc := 905) dL_law__905 lk_L_134 ok_X12_thrown (rcO o_534 (by decide) rfl) rfl rfl (c_X12_thrown h0 (kt_s ?_))
      refine s_iload (pc := 908) (i := 5) dL_law__908 rfl ?_
      refine s_iceq (pc := 910) (tgt := 915) dL_law__910 rfl (fun h910 => ?_) (fun h910 => absurd (rfl) h910)
      refine s_iload (pc := 915) (i := 5) dL_law__915 rfl ?_
      refine s_ifne (pc := 917) (tgt := 932) dL_law__917 rfl (fun h917 => ?_) (fun h917 => absurd h917 (nc1))
      refine s_goto (pc := 932) (tgt := 2692) dL_law__932 rfl ?_
      exact hK x1 I2 J (n + 1) (w + 6) _ _ _ _ hg1 (cI_m hg1 hc1 f2) hm2 (by omega) (by omega)
theorem lw_13 {x : gX} {q : Nat} {v5 v6 v7 : Value} (hN : aNx g) (hL : 10 * q + 10 ≤ gL g) (hL2 : gL g ≤ 5120) (hx : gOk x) (hc : cI x I) (hm : mI x I) (hn : n + 1 ≤ 600000 ∧ w + 6 ≤ 7000000) (hK : ∀ (x' : gX) (I' : Nat → Nat → Int32) (J' : Nat → Nat → Int64) (n' w' : Nat) (v5 v6 v7 : Value) (ll : List (Nat × Int64)), gOk x' → cI x' I' → mI x' I' → n' ≤ n + 1 → w' ≤ w + 6 → Rn g (d + 40) mL_law_ 2692 [.ref 0, .ref 1, .ref 534, .ref 560, .int (nI (10 * q)), v5, v6, v7] ll [] (Z I' J' n' w') Q) : Rn g (d + 40) mL_law_ 935 [.ref 0, .ref 1, .ref 534, .ref 560, .int (nI (10 * q)), v5, v6, v7] [] [] (Z I J n w) Q := by
  obtain ⟨x1, A1, hg1, hA, hC, hM⟩ := pr_would (x := gx g (10 * q + 1)) (y := gx g (10 * q + 2)) (z := gx g (10 * q + 3)) (u := gx g (10 * q + 4)) (v5 := gx g (10 * q + 5)) (v6 := gx g (10 * q + 6)) (v7 := gx g (10 * q + 7)) (v8 := gx g (10 * q + 8)) (v9 := gx g (10 * q + 9)) hx
  refine s_aload_n (pc := 935) (i := 1) dL_law__935 rfl rfl ?_
  refine s_aload_n (pc := 936) (i := 0) dL_law__936 rfl rfl ?_
  refine s_iload (pc := 937) (i := 4) dL_law__937 rfl ?_
  refine m_ic (pc := 939) (v := 1) dL_law__939 rfl ?_
  refine s_iadd (pc := 940) dL_law__940 ?_
  refine m_nm (v' := nI ((10 * q) + 1)) (nI_add (10 * q) 1) ?_
  refine s_sld (pc := 941) dL_law__941 (vp_in_nI (n := (10 * q) + 1) (by omega) (by omega)) ?_
  refine m_nm (v' := gx g (10 * q + 1)) (rdX (by omega)) ?_
  refine s_aload_n (pc := 942) (i := 0) dL_law__942 rfl rfl ?_
  refine s_iload (pc := 943) (i := 4) dL_law__943 rfl ?_
  refine m_ic (pc := 945) (v := 2) dL_law__945 rfl ?_
  refine s_iadd (pc := 946) dL_law__946 ?_
  refine m_nm (v' := nI ((10 * q) + 2)) (nI_add (10 * q) 2) ?_
  refine s_sld (pc := 947) dL_law__947 (vp_in_nI (n := (10 * q) + 2) (by omega) (by omega)) ?_
  refine m_nm (v' := gx g (10 * q + 2)) (rdX (by omega)) ?_
  refine s_aload_n (pc := 948) (i := 0) dL_law__948 rfl rfl ?_
  refine s_iload (pc := 949) (i := 4) dL_law__949 rfl ?_
  refine m_ic (pc := 951) (v := 3) dL_law__951 rfl ?_
  refine s_iadd (pc := 952) dL_law__952 ?_
  refine m_nm (v' := nI ((10 * q) + 3)) (nI_add (10 * q) 3) ?_
  refine s_sld (pc := 953) dL_law__953 (vp_in_nI (n := (10 * q) + 3) (by omega) (by omega)) ?_
  refine m_nm (v' := gx g (10 * q + 3)) (rdX (by omega)) ?_
  refine s_aload_n (pc := 954) (i := 0) dL_law__954 rfl rfl ?_
  refine s_iload (pc := 955) (i := 4) dL_law__955 rfl ?_
  refine m_ic (pc := 957) (v := 4) dL_law__957 rfl ?_
  refine s_iadd (pc := 958) dL_law__958 ?_
  refine m_nm (v' := nI ((10 * q) + 4)) (nI_add (10 * q) 4) ?_
  refine s_sld (pc := 959) dL_law__959 (vp_in_nI (n := (10 * q) + 4) (by omega) (by omega)) ?_
  refine m_nm (v' := gx g (10 * q + 4)) (rdX (by omega)) ?_
  refine s_aload_n (pc := 960) (i := 0) dL_law__960 rfl rfl ?_
  refine s_iload (pc := 961) (i := 4) dL_law__961 rfl ?_
  refine m_ic (pc := 963) (v := 5) dL_law__963 rfl ?_
  refine s_iadd (pc := 964) dL_law__964 ?_
  refine m_nm (v' := nI ((10 * q) + 5)) (nI_add (10 * q) 5) ?_
  refine s_sld (pc := 965) dL_law__965 (vp_in_nI (n := (10 * q) + 5) (by omega) (by omega)) ?_
  refine m_nm (v' := gx g (10 * q + 5)) (rdX (by omega)) ?_
  refine s_aload_n (pc := 966) (i := 0) dL_law__966 rfl rfl ?_
  refine s_iload (pc := 967) (i := 4) dL_law__967 rfl ?_
  refine m_bi (pc := 969) (v := 6) dL_law__969 rfl ?_
  refine s_iadd (pc := 971) dL_law__971 ?_
  refine m_nm (v' := nI ((10 * q) + 6)) (nI_add (10 * q) 6) ?_
  refine s_sld (pc := 972) dL_law__972 (vp_in_nI (n := (10 * q) + 6) (by omega) (by omega)) ?_
  refine m_nm (v' := gx g (10 * q + 6)) (rdX (by omega)) ?_
  refine s_aload_n (pc := 973) (i := 0) dL_law__973 rfl rfl ?_
  refine s_iload (pc := 974) (i := 4) dL_law__974 rfl ?_
  refine m_bi (pc := 976) (v := 7) dL_law__976 rfl ?_
  refine s_iadd (pc := 978) dL_law__978 ?_
  refine m_nm (v' := nI ((10 * q) + 7)) (nI_add (10 * q) 7) ?_
  refine s_sld (pc := 979) dL_law__979 (vp_in_nI (n := (10 * q) + 7) (by omega) (by omega)) ?_
  refine m_nm (v' := gx g (10 * q + 7)) (rdX (by omega)) ?_
  refine s_aload_n (pc := 980) (i := 0) dL_law__980 rfl rfl ?_
  refine s_iload (pc := 981) (i := 4) dL_law__981 rfl ?_
  refine m_bi (pc := 983) (v := 8) dL_law__983 rfl ?_
  refine s_iadd (pc := 985) dL_law__985 ?_
  refine m_nm (v' := nI ((10 * q) + 8)) (nI_add (10 * q) 8) ?_
  refine s_sld (pc := 986) dL_law__986 (vp_in_nI (n := (10 * q) + 8) (by omega) (by omega)) ?_
  refine m_nm (v' := gx g (10 * q + 8)) (rdX (by omega)) ?_
  refine s_aload_n (pc := 987) (i := 0) dL_law__987 rfl rfl ?_
  refine s_iload (pc := 988) (i := 4) dL_law__988 rfl ?_
  refine m_bi (pc := 990) (v := 9) dL_law__990 rfl ?_
  refine s_iadd (pc := 992) dL_law__992 ?_
  refine m_nm (v' := nI ((10 * q) + 9)) (nI_add (10 * q) 9) ?_
  refine s_sld (pc := 993) dL_law__993 (vp_in_nI (n := (10 * q) + 9) (by omega) (by omega)) ?_
  refine m_nm (v' := gx g (10 * q + 9)) (rdX (by omega)) ?_
  refine s_aload_n (pc := 994) (i := 3) dL_law__994 rfl rfl ?_
  refine m_h11 (y' := mL_would) (pc := 995) dL_law__995 ml_L_174 ok_L_would sa_L_would rfl rfl (c_L_would hN (hC g (d + 30) I J n w _ hc hn (fun v1 I1 e1 hc1 f1 => ⟨I1, J, n, w, rfl, kt_s ?_⟩) (fun k1 I1 e1 hc1 f1 => ?_)))
  · refine s_istore (pc := 998) (i := 5) dL_law__998 (Nat.le_of_ble_eq_true rfl) ?_
    dsimp only [List.set, List.filter]
    refine s_aload_n (pc := 1000) (i := 2) dL_law__1000 rfl rfl ?_
    refine s_aload_n (pc := 1001) (i := 0) dL_law__1001 rfl rfl ?_
    refine s_iload (pc := 1002) (i := 4) dL_law__1002 rfl ?_
    refine m_ic (pc := 1004) (v := 1) dL_law__1004 rfl ?_
    refine s_iadd (pc := 1005) dL_law__1005 ?_
    refine m_nm (v' := nI ((10 * q) + 1)) (nI_add (10 * q) 1) ?_
    refine s_sld (pc := 1006) dL_law__1006 (vp_in_nI (n := (10 * q) + 1) (by omega) (by omega)) ?_
    refine m_nm (v' := gx g (10 * q + 1)) (rdX (by omega)) ?_
    refine s_aload_n (pc := 1007) (i := 0) dL_law__1007 rfl rfl ?_
    refine s_iload (pc := 1008) (i := 4) dL_law__1008 rfl ?_
    refine m_ic (pc := 1010) (v := 2) dL_law__1010 rfl ?_
    refine s_iadd (pc := 1011) dL_law__1011 ?_
    refine m_nm (v' := nI ((10 * q) + 2)) (nI_add (10 * q) 2) ?_
    refine s_sld (pc := 1012) dL_law__1012 (vp_in_nI (n := (10 * q) + 2) (by omega) (by omega)) ?_
    refine m_nm (v' := gx g (10 * q + 2)) (rdX (by omega)) ?_
    refine s_aload_n (pc := 1013) (i := 0) dL_law__1013 rfl rfl ?_
    refine s_iload (pc := 1014) (i := 4) dL_law__1014 rfl ?_
    refine m_ic (pc := 1016) (v := 3) dL_law__1016 rfl ?_
    refine s_iadd (pc := 1017) dL_law__1017 ?_
    refine m_nm (v' := nI ((10 * q) + 3)) (nI_add (10 * q) 3) ?_
    refine s_sld (pc := 1018) dL_law__1018 (vp_in_nI (n := (10 * q) + 3) (by omega) (by omega)) ?_
    refine m_nm (v' := gx g (10 * q + 3)) (rdX (by omega)) ?_
    refine s_aload_n (pc := 1019) (i := 0) dL_law__1019 rfl rfl ?_
    refine s_iload (pc := 1020) (i := 4) dL_law__1020 rfl ?_
    refine m_ic (pc := 1022) (v := 4) dL_law__1022 rfl ?_
    refine s_iadd (pc := 1023) dL_law__1023 ?_
    refine m_nm (v' := nI ((10 * q) + 4)) (nI_add (10 * q) 4) ?_
    refine s_sld (pc := 1024) dL_law__1024 (vp_in_nI (n := (10 * q) + 4) (by omega) (by omega)) ?_
    refine m_nm (v' := gx g (10 * q + 4)) (rdX (by omega)) ?_
    refine s_aload_n (pc := 1025) (i := 0) dL_law__1025 rfl rfl ?_
    refine s_iload (pc := 1026) (i := 4) dL_law__1026 rfl ?_
    refine m_ic (pc := 1028) (v := 5) dL_law__1028 rfl ?_
    refine s_iadd (pc := 1029) dL_law__1029 ?_
    refine m_nm (v' := nI ((10 * q) + 5)) (nI_add (10 * q) 5) ?_
    refine s_sld (pc := 1030) dL_law__1030 (vp_in_nI (n := (10 * q) + 5) (by omega) (by omega)) ?_
    refine m_nm (v' := gx g (10 * q + 5)) (rdX (by omega)) ?_
    refine s_aload_n (pc := 1031) (i := 0) dL_law__1031 rfl rfl ?_
    refine s_iload (pc := 1032) (i := 4) dL_law__1032 rfl ?_
    refine m_bi (pc := 1034) (v := 6) dL_law__1034 rfl ?_
    refine s_iadd (pc := 1036) dL_law__1036 ?_
    refine m_nm (v' := nI ((10 * q) + 6)) (nI_add (10 * q) 6) ?_
    refine s_sld (pc := 1037) dL_law__1037 (vp_in_nI (n := (10 * q) + 6) (by omega) (by omega)) ?_
    refine m_nm (v' := gx g (10 * q + 6)) (rdX (by omega)) ?_
    refine s_aload_n (pc := 1038) (i := 0) dL_law__1038 rfl rfl ?_
    refine s_iload (pc := 1039) (i := 4) dL_law__1039 rfl ?_
    refine m_bi (pc := 1041) (v := 7) dL_law__1041 rfl ?_
    refine s_iadd (pc := 1043) dL_law__1043 ?_
    refine m_nm (v' := nI ((10 * q) + 7)) (nI_add (10 * q) 7) ?_
    refine s_sld (pc := 1044) dL_law__1044 (vp_in_nI (n := (10 * q) + 7) (by omega) (by omega)) ?_
    refine m_nm (v' := gx g (10 * q + 7)) (rdX (by omega)) ?_
    refine s_aload_n (pc := 1045) (i := 0) dL_law__1045 rfl rfl ?_
    refine s_iload (pc := 1046) (i := 4) dL_law__1046 rfl ?_
    refine m_bi (pc := 1048) (v := 8) dL_law__1048 rfl ?_
    refine s_iadd (pc := 1050) dL_law__1050 ?_
    refine m_nm (v' := nI ((10 * q) + 8)) (nI_add (10 * q) 8) ?_
    refine s_sld (pc := 1051) dL_law__1051 (vp_in_nI (n := (10 * q) + 8) (by omega) (by omega)) ?_
    refine m_nm (v' := gx g (10 * q + 8)) (rdX (by omega)) ?_
    refine s_aload_n (pc := 1052) (i := 0) dL_law__1052 rfl rfl ?_
    refine s_iload (pc := 1053) (i := 4) dL_law__1053 rfl ?_
    refine m_bi (pc := 1055) (v := 9) dL_law__1055 rfl ?_
    refine s_iadd (pc := 1057) dL_law__1057 ?_
    refine m_nm (v' := nI ((10 * q) + 9)) (nI_add (10 * q) 9) ?_
    refine s_sld (pc := 1058) dL_law__1058 (vp_in_nI (n := (10 * q) + 9) (by omega) (by omega)) ?_
    refine m_nm (v' := gx g (10 * q + 9)) (rdX (by omega)) ?_
    refine m_v9 (pc := 1059) dL_law__1059 lk_L_177 ok_X12_would (rcO o_534 (by decide) rfl) rfl rfl (hM g (d + 35) I1 (upJ J 560 0 v1.toInt64) n w _ (mI_c hm f1) (fun v2 I2 e2 hm2 f2 h0 => kt_s ?_) (fun k2 I2 e2 _ _ _ => (by rw [e1] at e2; cases e2)))
    · have ev : v1 = v2 := by rw [e1] at e2; cases e2; rfl
      subst ev
      refine s_istore (pc := 1062) (i := 6) dL_law__1062 (Nat.le_of_ble_eq_true rfl) ?_
      dsimp only [List.set, List.filter]
      refine s_aload_n (pc := 1064) (i := 2) dL_law__1064 rfl rfl ?_
      refine m_v0 (pc := 1065) dL_law__1065 lk_L_134 ok_X12_thrown (rcO o_534 (by decide) rfl) rfl rfl (c_X12_thrown h0 (kt_s ?_))
      · refine s_iload (pc := 1068) (i := 5) dL_law__1068 rfl ?_
        refine s_iceq (pc := 1070) (tgt := 1075) dL_law__1070 rfl (fun h1070 => ?_) (fun h1070 => absurd h1070 (by decide))
        refine s_iload (pc := 1075) (i := 5) dL_law__1075 rfl ?_
        refine s_ifne (pc := 1077) (tgt := 1092) dL_law__1077 rfl (fun h1077 => absurd h1077 (by decide)) (fun h1077 => ?_)
        refine s_aload_n (pc := 1080) (i := 3) dL_law__1080 rfl rfl ?_
        refine m_ic (pc := 1081) (v := 0) dL_law__1081 rfl ?_
        refine m_la (pc := 1082) dL_law__1082 a_560 (vp_in_nI (n := 0) (by omega) (by decide)) ?_
        refine m_nl (v' := v1.toInt64) (uJ_s) ?_
        refine s_iload (pc := 1083) (i := 6) dL_law__1083 rfl ?_
        refine s_i2l (pc := 1085) dL_law__1085 ?_
        refine s_lcmp (pc := 1086) dL_law__1086 ?_
        refine m_nm (v' := 0) (lg_cc) ?_
        refine s_ifeq (pc := 1087) (tgt := 1092) dL_law__1087 rfl (fun h1087 => ?_) (fun h1087 => absurd h1087 (by decide))
        refine s_goto (pc := 1092) (tgt := 2692) dL_law__1092 rfl ?_
        exact hK x1 I2 _ n w _ _ _ _ hg1 (cI_m hg1 hc1 f2) hm2 (by omega) (by omega)
  · obtain ⟨c1, ec1, nc1⟩ := hA k1 e1
    refine ⟨c1, ec1, kt_s ?_⟩
    refine s_istore (pc := 998) (i := 5) dL_law__998 (Nat.le_of_ble_eq_true rfl) ?_
    dsimp only [List.set, List.filter]
    refine s_aload_n (pc := 1000) (i := 2) dL_law__1000 rfl rfl ?_
    refine s_aload_n (pc := 1001) (i := 0) dL_law__1001 rfl rfl ?_
    refine s_iload (pc := 1002) (i := 4) dL_law__1002 rfl ?_
    refine m_ic (pc := 1004) (v := 1) dL_law__1004 rfl ?_
    refine s_iadd (pc := 1005) dL_law__1005 ?_
    refine m_nm (v' := nI ((10 * q) + 1)) (nI_add (10 * q) 1) ?_
    refine s_sld (pc := 1006) dL_law__1006 (vp_in_nI (n := (10 * q) + 1) (by omega) (by omega)) ?_
    refine m_nm (v' := gx g (10 * q + 1)) (rdX (by omega)) ?_
    refine s_aload_n (pc := 1007) (i := 0) dL_law__1007 rfl rfl ?_
    refine s_iload (pc := 1008) (i := 4) dL_law__1008 rfl ?_
    refine m_ic (pc := 1010) (v := 2) dL_law__1010 rfl ?_
    refine s_iadd (pc := 1011) dL_law__1011 ?_
    refine m_nm (v' := nI ((10 * q) + 2)) (nI_add (10 * q) 2) ?_
    refine s_sld (pc := 1012) dL_law__1012 (vp_in_nI (n := (10 * q) + 2) (by omega) (by omega)) ?_
    refine m_nm (v' := gx g (10 * q + 2)) (rdX (by omega)) ?_
    refine s_aload_n (pc := 1013) (i := 0) dL_law__1013 rfl rfl ?_
    refine s_iload (pc := 1014) (i := 4) dL_law__1014 rfl ?_
    refine m_ic (pc := 1016) (v := 3) dL_law__1016 rfl ?_
    refine s_iadd (pc := 1017) dL_law__1017 ?_
    refine m_nm (v' := nI ((10 * q) + 3)) (nI_add (10 * q) 3) ?_
    refine s_sld (pc := 1018) dL_law__1018 (vp_in_nI (n := (10 * q) + 3) (by omega) (by omega)) ?_
    refine m_nm (v' := gx g (10 * q + 3)) (rdX (by omega)) ?_
    refine s_aload_n (pc := 1019) (i := 0) dL_law__1019 rfl rfl ?_
    refine s_iload (pc := 1020) (i := 4) dL_law__1020 rfl ?_
    refine m_ic (pc := 1022) (v := 4) dL_law__1022 rfl ?_
    refine s_iadd (pc := 1023) dL_law__1023 ?_
    refine m_nm (v' := nI ((10 * q) + 4)) (nI_add (10 * q) 4) ?_
    refine s_sld (pc := 1024) dL_law__1024 (vp_in_nI (n := (10 * q) + 4) (by omega) (by omega)) ?_
    refine m_nm (v' := gx g (10 * q + 4)) (rdX (by omega)) ?_
    refine s_aload_n (pc := 1025) (i := 0) dL_law__1025 rfl rfl ?_
    refine s_iload (pc := 1026) (i := 4) dL_law__1026 rfl ?_
    refine m_ic (pc := 1028) (v := 5) dL_law__1028 rfl ?_
    refine s_iadd (pc := 1029) dL_law__1029 ?_
    refine m_nm (v' := nI ((10 * q) + 5)) (nI_add (10 * q) 5) ?_
    refine s_sld (pc := 1030) dL_law__1030 (vp_in_nI (n := (10 * q) + 5) (by omega) (by omega)) ?_
    refine m_nm (v' := gx g (10 * q + 5)) (rdX (by omega)) ?_
    refine s_aload_n (pc := 1031) (i := 0) dL_law__1031 rfl rfl ?_
    refine s_iload (pc := 1032) (i := 4) dL_law__1032 rfl ?_
    refine m_bi (pc := 1034) (v := 6) dL_law__1034 rfl ?_
    refine s_iadd (pc := 1036) dL_law__1036 ?_
    refine m_nm (v' := nI ((10 * q) + 6)) (nI_add (10 * q) 6) ?_
    refine s_sld (pc := 1037) dL_law__1037 (vp_in_nI (n := (10 * q) + 6) (by omega) (by omega)) ?_
    refine m_nm (v' := gx g (10 * q + 6)) (rdX (by omega)) ?_
    refine s_aload_n (pc := 1038) (i := 0) dL_law__1038 rfl rfl ?_
    refine s_iload (pc := 1039) (i := 4) dL_law__1039 rfl ?_
    refine m_bi (pc := 1041) (v := 7) dL_law__1041 rfl ?_
    refine s_iadd (pc := 1043) dL_law__1043 ?_
    refine m_nm (v' := nI ((10 * q) + 7)) (nI_add (10 * q) 7) ?_
    refine s_sld (pc := 1044) dL_law__1044 (vp_in_nI (n := (10 * q) + 7) (by omega) (by omega)) ?_
    refine m_nm (v' := gx g (10 * q + 7)) (rdX (by omega)) ?_
    refine s_aload_n (pc := 1045) (i := 0) dL_law__1045 rfl rfl ?_
    refine s_iload (pc := 1046) (i := 4) dL_law__1046 rfl ?_
    refine m_bi (pc := 1048) (v := 8) dL_law__1048 rfl ?_
    refine s_iadd (pc := 1050) dL_law__1050 ?_
    refine m_nm (v' := nI ((10 * q) + 8)) (nI_add (10 * q) 8) ?_
    refine s_sld (pc := 1051) dL_law__1051 (vp_in_nI (n := (10 * q) + 8) (by omega) (by omega)) ?_
    refine m_nm (v' := gx g (10 * q + 8)) (rdX (by omega)) ?_
    refine s_aload_n (pc := 1052) (i := 0) dL_law__1052 rfl rfl ?_
    refine s_iload (pc := 1053) (i := 4) dL_law__1053 rfl ?_
    refine m_bi (pc := 1055) (v := 9) dL_law__1055 rfl ?_
    refine s_iadd (pc := 1057) dL_law__1057 ?_
    refine m_nm (v' := nI ((10 * q) + 9)) (nI_add (10 * q) 9) ?_
    refine s_sld (pc := 1058) dL_law__1058 (vp_in_nI (n := (10 * q) + 9) (by omega) (by omega)) ?_
    refine m_nm (v' := gx g (10 * q + 9)) (rdX (by omega)) ?_
    refine m_v9 (pc := 1059) dL_law__1059 lk_L_177 ok_X12_would (rcO o_534 (by decide) rfl) rfl rfl (hM g (d + 35) I1 J (n + 1) (w + 6) _ (mI_c hm f1) (fun v2 I2 e2 _ _ _ => (by rw [e1] at e2; cases e2)) (fun k2 I2 e2 hm2 f2 h0 => kt_s ?_))
    · have ek : k1 = k2 := by rw [e1] at e2; cases e2; rfl
      subst ek
      have h0 : I2 534 0 = c1 := h0.trans (by rw [ec1]; rfl)
      refine s_istore (pc := 1062) (i := 6) dL_law__1062 (Nat.le_of_ble_eq_true rfl) ?_
      dsimp only [List.set, List.filter]
      refine s_aload_n (pc := 1064) (i := 2) dL_law__1064 rfl rfl ?_
      refine m_v0 (pc := 1065) dL_law__1065 lk_L_134 ok_X12_thrown (rcO o_534 (by decide) rfl) rfl rfl (c_X12_thrown h0 (kt_s ?_))
      refine s_iload (pc := 1068) (i := 5) dL_law__1068 rfl ?_
      refine s_iceq (pc := 1070) (tgt := 1075) dL_law__1070 rfl (fun h1070 => ?_) (fun h1070 => absurd (rfl) h1070)
      refine s_iload (pc := 1075) (i := 5) dL_law__1075 rfl ?_
      refine s_ifne (pc := 1077) (tgt := 1092) dL_law__1077 rfl (fun h1077 => ?_) (fun h1077 => absurd h1077 (nc1))
      refine s_goto (pc := 1092) (tgt := 2692) dL_law__1092 rfl ?_
      exact hK x1 I2 J (n + 1) (w + 6) _ _ _ _ hg1 (cI_m hg1 hc1 f2) hm2 (by omega) (by omega)
theorem lw_14 {x : gX} {q : Nat} {v5 v6 v7 : Value} (hN : aNx g) (hL : 10 * q + 10 ≤ gL g) (hL2 : gL g ≤ 5120) (hx : gOk x) (hc : cI x I) (hm : mI x I) (hn : n + 1 ≤ 600000 ∧ w + 6 ≤ 7000000) (hK : ∀ (x' : gX) (I' : Nat → Nat → Int32) (J' : Nat → Nat → Int64) (n' w' : Nat) (v5 v6 v7 : Value) (ll : List (Nat × Int64)), gOk x' → cI x' I' → mI x' I' → n' ≤ n + 1 → w' ≤ w + 6 → Rn g (d + 40) mL_law_ 2692 [.ref 0, .ref 1, .ref 534, .ref 560, .int (nI (10 * q)), v5, v6, v7] ll [] (Z I' J' n' w') Q) : Rn g (d + 40) mL_law_ 1095 [.ref 0, .ref 1, .ref 534, .ref 560, .int (nI (10 * q)), v5, v6, v7] [] [] (Z I J n w) Q := by
  obtain ⟨x1, A1, hg1, hA, hC, hM⟩ := pr_ahead (x := gx g (10 * q + 1)) (y := gx g (10 * q + 2)) hx
  refine s_aload_n (pc := 1095) (i := 1) dL_law__1095 rfl rfl ?_
  refine s_aload_n (pc := 1096) (i := 0) dL_law__1096 rfl rfl ?_
  refine s_iload (pc := 1097) (i := 4) dL_law__1097 rfl ?_
  refine m_ic (pc := 1099) (v := 1) dL_law__1099 rfl ?_
  refine s_iadd (pc := 1100) dL_law__1100 ?_
  refine m_nm (v' := nI ((10 * q) + 1)) (nI_add (10 * q) 1) ?_
  refine s_sld (pc := 1101) dL_law__1101 (vp_in_nI (n := (10 * q) + 1) (by omega) (by omega)) ?_
  refine m_nm (v' := gx g (10 * q + 1)) (rdX (by omega)) ?_
  refine s_aload_n (pc := 1102) (i := 0) dL_law__1102 rfl rfl ?_
  refine s_iload (pc := 1103) (i := 4) dL_law__1103 rfl ?_
  refine m_ic (pc := 1105) (v := 2) dL_law__1105 rfl ?_
  refine s_iadd (pc := 1106) dL_law__1106 ?_
  refine m_nm (v' := nI ((10 * q) + 2)) (nI_add (10 * q) 2) ?_
  refine s_sld (pc := 1107) dL_law__1107 (vp_in_nI (n := (10 * q) + 2) (by omega) (by omega)) ?_
  refine m_nm (v' := gx g (10 * q + 2)) (rdX (by omega)) ?_
  refine s_aload_n (pc := 1108) (i := 3) dL_law__1108 rfl rfl ?_
  refine m_h4 (y' := mL_ahead) (pc := 1109) dL_law__1109 ml_L_178 ok_L_ahead sa_L_ahead rfl rfl (c_L_ahead hN (hC g (d + 30) I J n w _ hc hn (fun v1 I1 e1 hc1 f1 => ⟨I1, J, n, w, rfl, kt_s ?_⟩) (fun k1 I1 e1 hc1 f1 => ?_)))
  · refine s_istore (pc := 1112) (i := 5) dL_law__1112 (Nat.le_of_ble_eq_true rfl) ?_
    dsimp only [List.set, List.filter]
    refine s_aload_n (pc := 1114) (i := 2) dL_law__1114 rfl rfl ?_
    refine s_aload_n (pc := 1115) (i := 0) dL_law__1115 rfl rfl ?_
    refine s_iload (pc := 1116) (i := 4) dL_law__1116 rfl ?_
    refine m_ic (pc := 1118) (v := 1) dL_law__1118 rfl ?_
    refine s_iadd (pc := 1119) dL_law__1119 ?_
    refine m_nm (v' := nI ((10 * q) + 1)) (nI_add (10 * q) 1) ?_
    refine s_sld (pc := 1120) dL_law__1120 (vp_in_nI (n := (10 * q) + 1) (by omega) (by omega)) ?_
    refine m_nm (v' := gx g (10 * q + 1)) (rdX (by omega)) ?_
    refine s_aload_n (pc := 1121) (i := 0) dL_law__1121 rfl rfl ?_
    refine s_iload (pc := 1122) (i := 4) dL_law__1122 rfl ?_
    refine m_ic (pc := 1124) (v := 2) dL_law__1124 rfl ?_
    refine s_iadd (pc := 1125) dL_law__1125 ?_
    refine m_nm (v' := nI ((10 * q) + 2)) (nI_add (10 * q) 2) ?_
    refine s_sld (pc := 1126) dL_law__1126 (vp_in_nI (n := (10 * q) + 2) (by omega) (by omega)) ?_
    refine m_nm (v' := gx g (10 * q + 2)) (rdX (by omega)) ?_
    refine m_v2 (pc := 1127) dL_law__1127 lk_L_180 ok_X12_ahead (rcO o_534 (by decide) rfl) rfl rfl (hM g (d + 36) I1 (upJ J 560 0 v1.toInt64) n w _ (mI_c hm f1) (fun v2 I2 e2 hm2 f2 h0 => kt_s ?_) (fun k2 I2 e2 _ _ _ => (by rw [e1] at e2; cases e2)))
    · have ev : v1 = v2 := by rw [e1] at e2; cases e2; rfl
      subst ev
      refine s_istore (pc := 1130) (i := 6) dL_law__1130 (Nat.le_of_ble_eq_true rfl) ?_
      dsimp only [List.set, List.filter]
      refine s_aload_n (pc := 1132) (i := 2) dL_law__1132 rfl rfl ?_
      refine m_v0 (pc := 1133) dL_law__1133 lk_L_134 ok_X12_thrown (rcO o_534 (by decide) rfl) rfl rfl (c_X12_thrown h0 (kt_s ?_))
      · refine s_iload (pc := 1136) (i := 5) dL_law__1136 rfl ?_
        refine s_iceq (pc := 1138) (tgt := 1143) dL_law__1138 rfl (fun h1138 => ?_) (fun h1138 => absurd h1138 (by decide))
        refine s_iload (pc := 1143) (i := 5) dL_law__1143 rfl ?_
        refine s_ifne (pc := 1145) (tgt := 1160) dL_law__1145 rfl (fun h1145 => absurd h1145 (by decide)) (fun h1145 => ?_)
        refine s_aload_n (pc := 1148) (i := 3) dL_law__1148 rfl rfl ?_
        refine m_ic (pc := 1149) (v := 0) dL_law__1149 rfl ?_
        refine m_la (pc := 1150) dL_law__1150 a_560 (vp_in_nI (n := 0) (by omega) (by decide)) ?_
        refine m_nl (v' := v1.toInt64) (uJ_s) ?_
        refine s_iload (pc := 1151) (i := 6) dL_law__1151 rfl ?_
        refine s_i2l (pc := 1153) dL_law__1153 ?_
        refine s_lcmp (pc := 1154) dL_law__1154 ?_
        refine m_nm (v' := 0) (lg_cc) ?_
        refine s_ifeq (pc := 1155) (tgt := 1160) dL_law__1155 rfl (fun h1155 => ?_) (fun h1155 => absurd h1155 (by decide))
        refine s_goto (pc := 1160) (tgt := 2692) dL_law__1160 rfl ?_
        exact hK x1 I2 _ n w _ _ _ _ hg1 (cI_m hg1 hc1 f2) hm2 (by omega) (by omega)
  · obtain ⟨c1, ec1, nc1⟩ := hA k1 e1
    refine ⟨c1, ec1, kt_s ?_⟩
    refine s_istore (pc := 1112) (i := 5) dL_law__1112 (Nat.le_of_ble_eq_true rfl) ?_
    dsimp only [List.set, List.filter]
    refine s_aload_n (pc := 1114) (i := 2) dL_law__1114 rfl rfl ?_
    refine s_aload_n (pc := 1115) (i := 0) dL_law__1115 rfl rfl ?_
    refine s_iload (pc := 1116) (i := 4) dL_law__1116 rfl ?_
    refine m_ic (pc := 1118) (v := 1) dL_law__1118 rfl ?_
    refine s_iadd (pc := 1119) dL_law__1119 ?_
    refine m_nm (v' := nI ((10 * q) + 1)) (nI_add (10 * q) 1) ?_
    refine s_sld (pc := 1120) dL_law__1120 (vp_in_nI (n := (10 * q) + 1) (by omega) (by omega)) ?_
    refine m_nm (v' := gx g (10 * q + 1)) (rdX (by omega)) ?_
    refine s_aload_n (pc := 1121) (i := 0) dL_law__1121 rfl rfl ?_
    refine s_iload (pc := 1122) (i := 4) dL_law__1122 rfl ?_
    refine m_ic (pc := 1124) (v := 2) dL_law__1124 rfl ?_
    refine s_iadd (pc := 1125) dL_law__1125 ?_
    refine m_nm (v' := nI ((10 * q) + 2)) (nI_add (10 * q) 2) ?_
    refine s_sld (pc := 1126) dL_law__1126 (vp_in_nI (n := (10 * q) + 2) (by omega) (by omega)) ?_
    refine m_nm (v' := gx g (10 * q + 2)) (rdX (by omega)) ?_
    refine m_v2 (pc := 1127) dL_law__1127 lk_L_180 ok_X12_ahead (rcO o_534 (by decide) rfl) rfl rfl (hM g (d + 36) I1 J (n + 1) (w + 6) _ (mI_c hm f1) (fun v2 I2 e2 _ _ _ => (by rw [e1] at e2; cases e2)) (fun k2 I2 e2 hm2 f2 h0 => kt_s ?_))
    · have ek : k1 = k2 := by rw [e1] at e2; cases e2; rfl
      subst ek
      have h0 : I2 534 0 = c1 := h0.trans (by rw [ec1]; rfl)
      refine s_istore (pc := 1130) (i := 6) dL_law__1130 (Nat.le_of_ble_eq_true rfl) ?_
      dsimp only [List.set, List.filter]
      refine s_aload_n (pc := 1132) (i := 2) dL_law__1132 rfl rfl ?_
      refine m_v0 (pc := 1133) dL_law__1133 lk_L_134 ok_X12_thrown (rcO o_534 (by decide) rfl) rfl rfl (c_X12_thrown h0 (kt_s ?_))
      refine s_iload (pc := 1136) (i := 5) dL_law__1136 rfl ?_
      refine s_iceq (pc := 1138) (tgt := 1143) dL_law__1138 rfl (fun h1138 => ?_) (fun h1138 => absurd (rfl) h1138)
      refine s_iload (pc := 1143) (i := 5) dL_law__1143 rfl ?_
      refine s_ifne (pc := 1145) (tgt := 1160) dL_law__1145 rfl (fun h1145 => ?_) (fun h1145 => absurd h1145 (nc1))
      refine s_goto (pc := 1160) (tgt := 2692) dL_law__1160 rfl ?_
      exact hK x1 I2 J (n + 1) (w + 6) _ _ _ _ hg1 (cI_m hg1 hc1 f2) hm2 (by omega) (by omega)
theorem lw_15 {x : gX} {q : Nat} {v5 v6 v7 : Value} (hN : aNx g) (hL : 10 * q + 10 ≤ gL g) (hL2 : gL g ≤ 5120) (hx : gOk x) (hc : cI x I) (hm : mI x I) (hn : n + 1 ≤ 600000 ∧ w + 6 ≤ 7000000) (hK : ∀ (x' : gX) (I' : Nat → Nat → Int32) (J' : Nat → Nat → Int64) (n' w' : Nat) (v5 v6 v7 : Value) (ll : List (Nat × Int64)), gOk x' → cI x' I' → mI x' I' → n' ≤ n + 1 → w' ≤ w + 6 → Rn g (d + 40) mL_law_ 2692 [.ref 0, .ref 1, .ref 534, .ref 560, .int (nI (10 * q)), v5, v6, v7] ll [] (Z I' J' n' w') Q) : Rn g (d + 40) mL_law_ 1163 [.ref 0, .ref 1, .ref 534, .ref 560, .int (nI (10 * q)), v5, v6, v7] [] [] (Z I J n w) Q := by
  obtain ⟨x1, A1, hg1, hA, hC, hM⟩ := pr_could (x := gx g (10 * q + 1)) hx
  refine s_aload_n (pc := 1163) (i := 1) dL_law__1163 rfl rfl ?_
  refine s_aload_n (pc := 1164) (i := 0) dL_law__1164 rfl rfl ?_
  refine s_iload (pc := 1165) (i := 4) dL_law__1165 rfl ?_
  refine m_ic (pc := 1167) (v := 1) dL_law__1167 rfl ?_
  refine s_iadd (pc := 1168) dL_law__1168 ?_
  refine m_nm (v' := nI ((10 * q) + 1)) (nI_add (10 * q) 1) ?_
  refine s_sld (pc := 1169) dL_law__1169 (vp_in_nI (n := (10 * q) + 1) (by omega) (by omega)) ?_
  refine m_nm (v' := gx g (10 * q + 1)) (rdX (by omega)) ?_
  refine s_aload_n (pc := 1170) (i := 3) dL_law__1170 rfl rfl ?_
  refine m_h3 (y' := mL_could) (pc := 1171) dL_law__1171 ml_L_181 ok_L_could sa_L_could rfl rfl (c_L_could hN (hC g (d + 30) I J n w _ hc hn (fun v1 I1 e1 hc1 f1 => ⟨I1, J, n, w, rfl, kt_s ?_⟩) (fun k1 I1 e1 hc1 f1 => ?_)))
  · refine s_istore (pc := 1174) (i := 5) dL_law__1174 (Nat.le_of_ble_eq_true rfl) ?_
    dsimp only [List.set, List.filter]
    refine s_aload_n (pc := 1176) (i := 2) dL_law__1176 rfl rfl ?_
    refine s_aload_n (pc := 1177) (i := 0) dL_law__1177 rfl rfl ?_
    refine s_iload (pc := 1178) (i := 4) dL_law__1178 rfl ?_
    refine m_ic (pc := 1180) (v := 1) dL_law__1180 rfl ?_
    refine s_iadd (pc := 1181) dL_law__1181 ?_
    refine m_nm (v' := nI ((10 * q) + 1)) (nI_add (10 * q) 1) ?_
    refine s_sld (pc := 1182) dL_law__1182 (vp_in_nI (n := (10 * q) + 1) (by omega) (by omega)) ?_
    refine m_nm (v' := gx g (10 * q + 1)) (rdX (by omega)) ?_
    refine m_v1 (pc := 1183) dL_law__1183 lk_L_183 ok_X12_could (rcO o_534 (by decide) rfl) rfl rfl (hM g (d + 32) I1 (upJ J 560 0 v1.toInt64) n w _ (mI_c hm f1) (fun v2 I2 e2 hm2 f2 h0 => kt_s ?_) (fun k2 I2 e2 _ _ _ => (by rw [e1] at e2; cases e2)))
    · have ev : v1 = v2 := by rw [e1] at e2; cases e2; rfl
      subst ev
      refine s_istore (pc := 1186) (i := 6) dL_law__1186 (Nat.le_of_ble_eq_true rfl) ?_
      dsimp only [List.set, List.filter]
      refine s_aload_n (pc := 1188) (i := 2) dL_law__1188 rfl rfl ?_
      refine m_v0 (pc := 1189) dL_law__1189 lk_L_134 ok_X12_thrown (rcO o_534 (by decide) rfl) rfl rfl (c_X12_thrown h0 (kt_s ?_))
      · refine s_iload (pc := 1192) (i := 5) dL_law__1192 rfl ?_
        refine s_iceq (pc := 1194) (tgt := 1199) dL_law__1194 rfl (fun h1194 => ?_) (fun h1194 => absurd h1194 (by decide))
        refine s_iload (pc := 1199) (i := 5) dL_law__1199 rfl ?_
        refine s_ifne (pc := 1201) (tgt := 1216) dL_law__1201 rfl (fun h1201 => absurd h1201 (by decide)) (fun h1201 => ?_)
        refine s_aload_n (pc := 1204) (i := 3) dL_law__1204 rfl rfl ?_
        refine m_ic (pc := 1205) (v := 0) dL_law__1205 rfl ?_
        refine m_la (pc := 1206) dL_law__1206 a_560 (vp_in_nI (n := 0) (by omega) (by decide)) ?_
        refine m_nl (v' := v1.toInt64) (uJ_s) ?_
        refine s_iload (pc := 1207) (i := 6) dL_law__1207 rfl ?_
        refine s_i2l (pc := 1209) dL_law__1209 ?_
        refine s_lcmp (pc := 1210) dL_law__1210 ?_
        refine m_nm (v' := 0) (lg_cc) ?_
        refine s_ifeq (pc := 1211) (tgt := 1216) dL_law__1211 rfl (fun h1211 => ?_) (fun h1211 => absurd h1211 (by decide))
        refine s_goto (pc := 1216) (tgt := 2692) dL_law__1216 rfl ?_
        exact hK x1 I2 _ n w _ _ _ _ hg1 (cI_m hg1 hc1 f2) hm2 (by omega) (by omega)
  · obtain ⟨c1, ec1, nc1⟩ := hA k1 e1
    refine ⟨c1, ec1, kt_s ?_⟩
    refine s_istore (pc := 1174) (i := 5) dL_law__1174 (Nat.le_of_ble_eq_true rfl) ?_
    dsimp only [List.set, List.filter]
    refine s_aload_n (pc := 1176) (i := 2) dL_law__1176 rfl rfl ?_
    refine s_aload_n (pc := 1177) (i := 0) dL_law__1177 rfl rfl ?_
    refine s_iload (pc := 1178) (i := 4) dL_law__1178 rfl ?_
    refine m_ic (pc := 1180) (v := 1) dL_law__1180 rfl ?_
    refine s_iadd (pc := 1181) dL_law__1181 ?_
    refine m_nm (v' := nI ((10 * q) + 1)) (nI_add (10 * q) 1) ?_
    refine s_sld (pc := 1182) dL_law__1182 (vp_in_nI (n := (10 * q) + 1) (by omega) (by omega)) ?_
    refine m_nm (v' := gx g (10 * q + 1)) (rdX (by omega)) ?_
    refine m_v1 (pc := 1183) dL_law__1183 lk_L_183 ok_X12_could (rcO o_534 (by decide) rfl) rfl rfl (hM g (d + 32) I1 J (n + 1) (w + 6) _ (mI_c hm f1) (fun v2 I2 e2 _ _ _ => (by rw [e1] at e2; cases e2)) (fun k2 I2 e2 hm2 f2 h0 => kt_s ?_))
    · have ek : k1 = k2 := by rw [e1] at e2; cases e2; rfl
      subst ek
      have h0 : I2 534 0 = c1 := h0.trans (by rw [ec1]; rfl)
      refine s_istore (pc := 1186) (i := 6) dL_law__1186 (Nat.le_of_ble_eq_true rfl) ?_
      dsimp only [List.set, List.filter]
      refine s_aload_n (pc := 1188) (i := 2) dL_law__1188 rfl rfl ?_
      refine m_v0 (pc := 1189) dL_law__1189 lk_L_134 ok_X12_thrown (rcO o_534 (by decide) rfl) rfl rfl (c_X12_thrown h0 (kt_s ?_))
      refine s_iload (pc := 1192) (i := 5) dL_law__1192 rfl ?_
      refine s_iceq (pc := 1194) (tgt := 1199) dL_law__1194 rfl (fun h1194 => ?_) (fun h1194 => absurd (rfl) h1194)
      refine s_iload (pc := 1199) (i := 5) dL_law__1199 rfl ?_
      refine s_ifne (pc := 1201) (tgt := 1216) dL_law__1201 rfl (fun h1201 => ?_) (fun h1201 => absurd h1201 (nc1))
      refine s_goto (pc := 1216) (tgt := 2692) dL_law__1216 rfl ?_
      exact hK x1 I2 J (n + 1) (w + 6) _ _ _ _ hg1 (cI_m hg1 hc1 f2) hm2 (by omega) (by omega)
theorem lw_16 {x : gX} {q : Nat} {v5 v6 v7 : Value} (hN : aNx g) (hL : 10 * q + 10 ≤ gL g) (hL2 : gL g ≤ 5120) (hx : gOk x) (hc : cI x I) (hm : mI x I) (hn : n + 1 ≤ 600000 ∧ w + 6 ≤ 7000000) (hK : ∀ (x' : gX) (I' : Nat → Nat → Int32) (J' : Nat → Nat → Int64) (n' w' : Nat) (v5 v6 v7 : Value) (ll : List (Nat × Int64)), gOk x' → cI x' I' → mI x' I' → n' ≤ n + 1 → w' ≤ w + 6 → Rn g (d + 40) mL_law_ 2692 [.ref 0, .ref 1, .ref 534, .ref 560, .int (nI (10 * q)), v5, v6, v7] ll [] (Z I' J' n' w') Q) : Rn g (d + 40) mL_law_ 1219 [.ref 0, .ref 1, .ref 534, .ref 560, .int (nI (10 * q)), v5, v6, v7] [] [] (Z I J n w) Q := by
  obtain ⟨x1, A1, hg1, hA, hC, hM⟩ := pr_roster (x := gx g (10 * q + 1)) hx
  refine s_aload_n (pc := 1219) (i := 1) dL_law__1219 rfl rfl ?_
  refine s_aload_n (pc := 1220) (i := 0) dL_law__1220 rfl rfl ?_
  refine s_iload (pc := 1221) (i := 4) dL_law__1221 rfl ?_
  refine m_ic (pc := 1223) (v := 1) dL_law__1223 rfl ?_
  refine s_iadd (pc := 1224) dL_law__1224 ?_
  refine m_nm (v' := nI ((10 * q) + 1)) (nI_add (10 * q) 1) ?_
  refine s_sld (pc := 1225) dL_law__1225 (vp_in_nI (n := (10 * q) + 1) (by omega) (by omega)) ?_
  refine m_nm (v' := gx g (10 * q + 1)) (rdX (by omega)) ?_
  refine s_aload_n (pc := 1226) (i := 3) dL_law__1226 rfl rfl ?_
  refine m_h3 (y' := mL_roster) (pc := 1227) dL_law__1227 ml_L_184 ok_L_roster sa_L_roster rfl rfl (c_L_roster hN (hC g (d + 29) I J n w _ hc hn (fun v1 I1 e1 hc1 f1 => ⟨I1, J, n, w, rfl, kt_s ?_⟩) (fun k1 I1 e1 hc1 f1 => ?_)))
  · refine s_istore (pc := 1230) (i := 5) dL_law__1230 (Nat.le_of_ble_eq_true rfl) ?_
    dsimp only [List.set, List.filter]
    refine s_aload_n (pc := 1232) (i := 2) dL_law__1232 rfl rfl ?_
    refine s_aload_n (pc := 1233) (i := 0) dL_law__1233 rfl rfl ?_
    refine s_iload (pc := 1234) (i := 4) dL_law__1234 rfl ?_
    refine m_ic (pc := 1236) (v := 1) dL_law__1236 rfl ?_
    refine s_iadd (pc := 1237) dL_law__1237 ?_
    refine m_nm (v' := nI ((10 * q) + 1)) (nI_add (10 * q) 1) ?_
    refine s_sld (pc := 1238) dL_law__1238 (vp_in_nI (n := (10 * q) + 1) (by omega) (by omega)) ?_
    refine m_nm (v' := gx g (10 * q + 1)) (rdX (by omega)) ?_
    refine m_v1 (pc := 1239) dL_law__1239 lk_L_186 ok_X12_roster (rcO o_534 (by decide) rfl) rfl rfl (hM g (d + 31) I1 (upJ J 560 0 v1.toInt64) n w _ (mI_c hm f1) (fun v2 I2 e2 hm2 f2 h0 => kt_s ?_) (fun k2 I2 e2 _ _ _ => (by rw [e1] at e2; cases e2)))
    · have ev : v1 = v2 := by rw [e1] at e2; cases e2; rfl
      subst ev
      refine s_istore (pc := 1242) (i := 6) dL_law__1242 (Nat.le_of_ble_eq_true rfl) ?_
      dsimp only [List.set, List.filter]
      refine s_aload_n (pc := 1244) (i := 2) dL_law__1244 rfl rfl ?_
      refine m_v0 (pc := 1245) dL_law__1245 lk_L_134 ok_X12_thrown (rcO o_534 (by decide) rfl) rfl rfl (c_X12_thrown h0 (kt_s ?_))
      · refine s_iload (pc := 1248) (i := 5) dL_law__1248 rfl ?_
        refine s_iceq (pc := 1250) (tgt := 1255) dL_law__1250 rfl (fun h1250 => ?_) (fun h1250 => absurd h1250 (by decide))
        refine s_iload (pc := 1255) (i := 5) dL_law__1255 rfl ?_
        refine s_ifne (pc := 1257) (tgt := 1272) dL_law__1257 rfl (fun h1257 => absurd h1257 (by decide)) (fun h1257 => ?_)
        refine s_aload_n (pc := 1260) (i := 3) dL_law__1260 rfl rfl ?_
        refine m_ic (pc := 1261) (v := 0) dL_law__1261 rfl ?_
        refine m_la (pc := 1262) dL_law__1262 a_560 (vp_in_nI (n := 0) (by omega) (by decide)) ?_
        refine m_nl (v' := v1.toInt64) (uJ_s) ?_
        refine s_iload (pc := 1263) (i := 6) dL_law__1263 rfl ?_
        refine s_i2l (pc := 1265) dL_law__1265 ?_
        refine s_lcmp (pc := 1266) dL_law__1266 ?_
        refine m_nm (v' := 0) (lg_cc) ?_
        refine s_ifeq (pc := 1267) (tgt := 1272) dL_law__1267 rfl (fun h1267 => ?_) (fun h1267 => absurd h1267 (by decide))
        refine s_goto (pc := 1272) (tgt := 2692) dL_law__1272 rfl ?_
        exact hK x1 I2 _ n w _ _ _ _ hg1 (cI_m hg1 hc1 f2) hm2 (by omega) (by omega)
  · obtain ⟨c1, ec1, nc1⟩ := hA k1 e1
    refine ⟨c1, ec1, kt_s ?_⟩
    refine s_istore (pc := 1230) (i := 5) dL_law__1230 (Nat.le_of_ble_eq_true rfl) ?_
    dsimp only [List.set, List.filter]
    refine s_aload_n (pc := 1232) (i := 2) dL_law__1232 rfl rfl ?_
    refine s_aload_n (pc := 1233) (i := 0) dL_law__1233 rfl rfl ?_
    refine s_iload (pc := 1234) (i := 4) dL_law__1234 rfl ?_
    refine m_ic (pc := 1236) (v := 1) dL_law__1236 rfl ?_
    refine s_iadd (pc := 1237) dL_law__1237 ?_
    refine m_nm (v' := nI ((10 * q) + 1)) (nI_add (10 * q) 1) ?_
    refine s_sld (pc := 1238) dL_law__1238 (vp_in_nI (n := (10 * q) + 1) (by omega) (by omega)) ?_
    refine m_nm (v' := gx g (10 * q + 1)) (rdX (by omega)) ?_
    refine m_v1 (pc := 1239) dL_law__1239 lk_L_186 ok_X12_roster (rcO o_534 (by decide) rfl) rfl rfl (hM g (d + 31) I1 J (n + 1) (w + 6) _ (mI_c hm f1) (fun v2 I2 e2 _ _ _ => (by rw [e1] at e2; cases e2)) (fun k2 I2 e2 hm2 f2 h0 => kt_s ?_))
    · have ek : k1 = k2 := by rw [e1] at e2; cases e2; rfl
      subst ek
      have h0 : I2 534 0 = c1 := h0.trans (by rw [ec1]; rfl)
      refine s_istore (pc := 1242) (i := 6) dL_law__1242 (Nat.le_of_ble_eq_true rfl) ?_
      dsimp only [List.set, List.filter]
      refine s_aload_n (pc := 1244) (i := 2) dL_law__1244 rfl rfl ?_
      refine m_v0 (pc := 1245) dL_law__1245 lk_L_134 ok_X12_thrown (rcO o_534 (by decide) rfl) rfl rfl (c_X12_thrown h0 (kt_s ?_))
      refine s_iload (pc := 1248) (i := 5) dL_law__1248 rfl ?_
      refine s_iceq (pc := 1250) (tgt := 1255) dL_law__1250 rfl (fun h1250 => ?_) (fun h1250 => absurd (rfl) h1250)
      refine s_iload (pc := 1255) (i := 5) dL_law__1255 rfl ?_
      refine s_ifne (pc := 1257) (tgt := 1272) dL_law__1257 rfl (fun h1257 => ?_) (fun h1257 => absurd h1257 (nc1))
      refine s_goto (pc := 1272) (tgt := 2692) dL_law__1272 rfl ?_
      exact hK x1 I2 J (n + 1) (w + 6) _ _ _ _ hg1 (cI_m hg1 hc1 f2) hm2 (by omega) (by omega)
theorem lw_17 {x : gX} {q : Nat} {v5 v6 v7 : Value} (hN : aNx g) (hL : 10 * q + 10 ≤ gL g) (hL2 : gL g ≤ 5120) (hx : gOk x) (hc : cI x I) (hm : mI x I) (hn : n + 1 ≤ 600000 ∧ w + 6 ≤ 7000000) (hK : ∀ (x' : gX) (I' : Nat → Nat → Int32) (J' : Nat → Nat → Int64) (n' w' : Nat) (v5 v6 v7 : Value) (ll : List (Nat × Int64)), gOk x' → cI x' I' → mI x' I' → n' ≤ n + 1 → w' ≤ w + 6 → Rn g (d + 40) mL_law_ 2692 [.ref 0, .ref 1, .ref 534, .ref 560, .int (nI (10 * q)), v5, v6, v7] ll [] (Z I' J' n' w') Q) : Rn g (d + 40) mL_law_ 1275 [.ref 0, .ref 1, .ref 534, .ref 560, .int (nI (10 * q)), v5, v6, v7] [] [] (Z I J n w) Q := by
  obtain ⟨x1, A1, hg1, hA, hC, hM⟩ := pr_gives (x := gx g (10 * q + 1)) (y := gx g (10 * q + 2)) hx
  refine s_aload_n (pc := 1275) (i := 1) dL_law__1275 rfl rfl ?_
  refine s_aload_n (pc := 1276) (i := 0) dL_law__1276 rfl rfl ?_
  refine s_iload (pc := 1277) (i := 4) dL_law__1277 rfl ?_
  refine m_ic (pc := 1279) (v := 1) dL_law__1279 rfl ?_
  refine s_iadd (pc := 1280) dL_law__1280 ?_
  refine m_nm (v' := nI ((10 * q) + 1)) (nI_add (10 * q) 1) ?_
  refine s_sld (pc := 1281) dL_law__1281 (vp_in_nI (n := (10 * q) + 1) (by omega) (by omega)) ?_
  refine m_nm (v' := gx g (10 * q + 1)) (rdX (by omega)) ?_
  refine s_aload_n (pc := 1282) (i := 0) dL_law__1282 rfl rfl ?_
  refine s_iload (pc := 1283) (i := 4) dL_law__1283 rfl ?_
  refine m_ic (pc := 1285) (v := 2) dL_law__1285 rfl ?_
  refine s_iadd (pc := 1286) dL_law__1286 ?_
  refine m_nm (v' := nI ((10 * q) + 2)) (nI_add (10 * q) 2) ?_
  refine s_sld (pc := 1287) dL_law__1287 (vp_in_nI (n := (10 * q) + 2) (by omega) (by omega)) ?_
  refine m_nm (v' := gx g (10 * q + 2)) (rdX (by omega)) ?_
  refine s_aload_n (pc := 1288) (i := 3) dL_law__1288 rfl rfl ?_
  refine m_h4 (y' := mL_gives) (pc := 1289) dL_law__1289 ml_L_187 ok_L_gives sa_L_gives rfl rfl (c_L_gives hN (hC g (d + 29) I J n w _ hc hn (fun v1 I1 e1 hc1 f1 => ⟨I1, J, n, w, rfl, kt_s ?_⟩) (fun k1 I1 e1 hc1 f1 => ?_)))
  · refine s_istore (pc := 1292) (i := 5) dL_law__1292 (Nat.le_of_ble_eq_true rfl) ?_
    dsimp only [List.set, List.filter]
    refine s_aload_n (pc := 1294) (i := 2) dL_law__1294 rfl rfl ?_
    refine s_aload_n (pc := 1295) (i := 0) dL_law__1295 rfl rfl ?_
    refine s_iload (pc := 1296) (i := 4) dL_law__1296 rfl ?_
    refine m_ic (pc := 1298) (v := 1) dL_law__1298 rfl ?_
    refine s_iadd (pc := 1299) dL_law__1299 ?_
    refine m_nm (v' := nI ((10 * q) + 1)) (nI_add (10 * q) 1) ?_
    refine s_sld (pc := 1300) dL_law__1300 (vp_in_nI (n := (10 * q) + 1) (by omega) (by omega)) ?_
    refine m_nm (v' := gx g (10 * q + 1)) (rdX (by omega)) ?_
    refine s_aload_n (pc := 1301) (i := 0) dL_law__1301 rfl rfl ?_
    refine s_iload (pc := 1302) (i := 4) dL_law__1302 rfl ?_
    refine m_ic (pc := 1304) (v := 2) dL_law__1304 rfl ?_
    refine s_iadd (pc := 1305) dL_law__1305 ?_
    refine m_nm (v' := nI ((10 * q) + 2)) (nI_add (10 * q) 2) ?_
    refine s_sld (pc := 1306) dL_law__1306 (vp_in_nI (n := (10 * q) + 2) (by omega) (by omega)) ?_
    refine m_nm (v' := gx g (10 * q + 2)) (rdX (by omega)) ?_
    refine m_v2 (pc := 1307) dL_law__1307 lk_L_189 ok_X12_gives (rcO o_534 (by decide) rfl) rfl rfl (hM g (d + 31) I1 (upJ J 560 0 v1.toInt64) n w _ (mI_c hm f1) (fun v2 I2 e2 hm2 f2 h0 => kt_s ?_) (fun k2 I2 e2 _ _ _ => (by rw [e1] at e2; cases e2)))
    · have ev : v1 = v2 := by rw [e1] at e2; cases e2; rfl
      subst ev
      refine s_istore (pc := 1310) (i := 6) dL_law__1310 (Nat.le_of_ble_eq_true rfl) ?_
      dsimp only [List.set, List.filter]
      refine s_aload_n (pc := 1312) (i := 2) dL_law__1312 rfl rfl ?_
      refine m_v0 (pc := 1313) dL_law__1313 lk_L_134 ok_X12_thrown (rcO o_534 (by decide) rfl) rfl rfl (c_X12_thrown h0 (kt_s ?_))
      · refine s_iload (pc := 1316) (i := 5) dL_law__1316 rfl ?_
        refine s_iceq (pc := 1318) (tgt := 1323) dL_law__1318 rfl (fun h1318 => ?_) (fun h1318 => absurd h1318 (by decide))
        refine s_iload (pc := 1323) (i := 5) dL_law__1323 rfl ?_
        refine s_ifne (pc := 1325) (tgt := 1340) dL_law__1325 rfl (fun h1325 => absurd h1325 (by decide)) (fun h1325 => ?_)
        refine s_aload_n (pc := 1328) (i := 3) dL_law__1328 rfl rfl ?_
        refine m_ic (pc := 1329) (v := 0) dL_law__1329 rfl ?_
        refine m_la (pc := 1330) dL_law__1330 a_560 (vp_in_nI (n := 0) (by omega) (by decide)) ?_
        refine m_nl (v' := v1.toInt64) (uJ_s) ?_
        refine s_iload (pc := 1331) (i := 6) dL_law__1331 rfl ?_
        refine s_i2l (pc := 1333) dL_law__1333 ?_
        refine s_lcmp (pc := 1334) dL_law__1334 ?_
        refine m_nm (v' := 0) (lg_cc) ?_
        refine s_ifeq (pc := 1335) (tgt := 1340) dL_law__1335 rfl (fun h1335 => ?_) (fun h1335 => absurd h1335 (by decide))
        refine s_goto (pc := 1340) (tgt := 2692) dL_law__1340 rfl ?_
        exact hK x1 I2 _ n w _ _ _ _ hg1 (cI_m hg1 hc1 f2) hm2 (by omega) (by omega)
  · obtain ⟨c1, ec1, nc1⟩ := hA k1 e1
    refine ⟨c1, ec1, kt_s ?_⟩
    refine s_istore (pc := 1292) (i := 5) dL_law__1292 (Nat.le_of_ble_eq_true rfl) ?_
    dsimp only [List.set, List.filter]
    refine s_aload_n (pc := 1294) (i := 2) dL_law__1294 rfl rfl ?_
    refine s_aload_n (pc := 1295) (i := 0) dL_law__1295 rfl rfl ?_
    refine s_iload (pc := 1296) (i := 4) dL_law__1296 rfl ?_
    refine m_ic (pc := 1298) (v := 1) dL_law__1298 rfl ?_
    refine s_iadd (pc := 1299) dL_law__1299 ?_
    refine m_nm (v' := nI ((10 * q) + 1)) (nI_add (10 * q) 1) ?_
    refine s_sld (pc := 1300) dL_law__1300 (vp_in_nI (n := (10 * q) + 1) (by omega) (by omega)) ?_
    refine m_nm (v' := gx g (10 * q + 1)) (rdX (by omega)) ?_
    refine s_aload_n (pc := 1301) (i := 0) dL_law__1301 rfl rfl ?_
    refine s_iload (pc := 1302) (i := 4) dL_law__1302 rfl ?_
    refine m_ic (pc := 1304) (v := 2) dL_law__1304 rfl ?_
    refine s_iadd (pc := 1305) dL_law__1305 ?_
    refine m_nm (v' := nI ((10 * q) + 2)) (nI_add (10 * q) 2) ?_
    refine s_sld (pc := 1306) dL_law__1306 (vp_in_nI (n := (10 * q) + 2) (by omega) (by omega)) ?_
    refine m_nm (v' := gx g (10 * q + 2)) (rdX (by omega)) ?_
    refine m_v2 (pc := 1307) dL_law__1307 lk_L_189 ok_X12_gives (rcO o_534 (by decide) rfl) rfl rfl (hM g (d + 31) I1 J (n + 1) (w + 6) _ (mI_c hm f1) (fun v2 I2 e2 _ _ _ => (by rw [e1] at e2; cases e2)) (fun k2 I2 e2 hm2 f2 h0 => kt_s ?_))
    · have ek : k1 = k2 := by rw [e1] at e2; cases e2; rfl
      subst ek
      have h0 : I2 534 0 = c1 := h0.trans (by rw [ec1]; rfl)
      refine s_istore (pc := 1310) (i := 6) dL_law__1310 (Nat.le_of_ble_eq_true rfl) ?_
      dsimp only [List.set, List.filter]
      refine s_aload_n (pc := 1312) (i := 2) dL_law__1312 rfl rfl ?_
      refine m_v0 (pc := 1313) dL_law__1313 lk_L_134 ok_X12_thrown (rcO o_534 (by decide) rfl) rfl rfl (c_X12_thrown h0 (kt_s ?_))
      refine s_iload (pc := 1316) (i := 5) dL_law__1316 rfl ?_
      refine s_iceq (pc := 1318) (tgt := 1323) dL_law__1318 rfl (fun h1318 => ?_) (fun h1318 => absurd (rfl) h1318)
      refine s_iload (pc := 1323) (i := 5) dL_law__1323 rfl ?_
      refine s_ifne (pc := 1325) (tgt := 1340) dL_law__1325 rfl (fun h1325 => ?_) (fun h1325 => absurd h1325 (nc1))
      refine s_goto (pc := 1340) (tgt := 2692) dL_law__1340 rfl ?_
      exact hK x1 I2 J (n + 1) (w + 6) _ _ _ _ hg1 (cI_m hg1 hc1 f2) hm2 (by omega) (by omega)
theorem lw_18 {x : gX} {q : Nat} {v5 v6 v7 : Value} (hN : aNx g) (hL : 10 * q + 10 ≤ gL g) (hL2 : gL g ≤ 5120) (hx : gOk x) (hc : cI x I) (hm : mI x I) (hn : n + 1 ≤ 600000 ∧ w + 6 ≤ 7000000) (hK : ∀ (x' : gX) (I' : Nat → Nat → Int32) (J' : Nat → Nat → Int64) (n' w' : Nat) (v5 v6 v7 : Value) (ll : List (Nat × Int64)), gOk x' → cI x' I' → mI x' I' → n' ≤ n + 1 → w' ≤ w + 6 → Rn g (d + 40) mL_law_ 2692 [.ref 0, .ref 1, .ref 534, .ref 560, .int (nI (10 * q)), v5, v6, v7] ll [] (Z I' J' n' w') Q) : Rn g (d + 40) mL_law_ 1343 [.ref 0, .ref 1, .ref 534, .ref 560, .int (nI (10 * q)), v5, v6, v7] [] [] (Z I J n w) Q := by
  obtain ⟨x1, A1, hg1, hA, hC, hM⟩ := pr_word (x := gx g (10 * q + 1)) hx
  refine s_aload_n (pc := 1343) (i := 1) dL_law__1343 rfl rfl ?_
  refine s_aload_n (pc := 1344) (i := 0) dL_law__1344 rfl rfl ?_
  refine s_iload (pc := 1345) (i := 4) dL_law__1345 rfl ?_
  refine m_ic (pc := 1347) (v := 1) dL_law__1347 rfl ?_
  refine s_iadd (pc := 1348) dL_law__1348 ?_
  refine m_nm (v' := nI ((10 * q) + 1)) (nI_add (10 * q) 1) ?_
  refine s_sld (pc := 1349) dL_law__1349 (vp_in_nI (n := (10 * q) + 1) (by omega) (by omega)) ?_
  refine m_nm (v' := gx g (10 * q + 1)) (rdX (by omega)) ?_
  refine s_aload_n (pc := 1350) (i := 3) dL_law__1350 rfl rfl ?_
  refine m_h3 (y' := mL_word) (pc := 1351) dL_law__1351 ml_L_190 ok_L_word sa_L_word rfl rfl (c_L_word hN (hC g (d + 30) I J n w _ hc hn (fun v1 I1 e1 hc1 f1 => ⟨I1, J, n, w, rfl, kt_s ?_⟩) (fun k1 I1 e1 hc1 f1 => ?_)))
  · refine s_istore (pc := 1354) (i := 5) dL_law__1354 (Nat.le_of_ble_eq_true rfl) ?_
    dsimp only [List.set, List.filter]
    refine s_aload_n (pc := 1356) (i := 2) dL_law__1356 rfl rfl ?_
    refine s_aload_n (pc := 1357) (i := 0) dL_law__1357 rfl rfl ?_
    refine s_iload (pc := 1358) (i := 4) dL_law__1358 rfl ?_
    refine m_ic (pc := 1360) (v := 1) dL_law__1360 rfl ?_
    refine s_iadd (pc := 1361) dL_law__1361 ?_
    refine m_nm (v' := nI ((10 * q) + 1)) (nI_add (10 * q) 1) ?_
    refine s_sld (pc := 1362) dL_law__1362 (vp_in_nI (n := (10 * q) + 1) (by omega) (by omega)) ?_
    refine m_nm (v' := gx g (10 * q + 1)) (rdX (by omega)) ?_
    refine m_v1 (pc := 1363) dL_law__1363 lk_L_192 ok_X12_word (rcO o_534 (by decide) rfl) rfl rfl (hM g (d + 36) I1 (upJ J 560 0 v1.toInt64) n w _ (mI_c hm f1) (fun v2 I2 e2 hm2 f2 h0 => kt_s ?_) (fun k2 I2 e2 _ _ _ => (by rw [e1] at e2; cases e2)))
    · have ev : v1 = v2 := by rw [e1] at e2; cases e2; rfl
      subst ev
      refine s_istore (pc := 1366) (i := 6) dL_law__1366 (Nat.le_of_ble_eq_true rfl) ?_
      dsimp only [List.set, List.filter]
      refine s_aload_n (pc := 1368) (i := 2) dL_law__1368 rfl rfl ?_
      refine m_v0 (pc := 1369) dL_law__1369 lk_L_134 ok_X12_thrown (rcO o_534 (by decide) rfl) rfl rfl (c_X12_thrown h0 (kt_s ?_))
      · refine s_iload (pc := 1372) (i := 5) dL_law__1372 rfl ?_
        refine s_iceq (pc := 1374) (tgt := 1379) dL_law__1374 rfl (fun h1374 => ?_) (fun h1374 => absurd h1374 (by decide))
        refine s_iload (pc := 1379) (i := 5) dL_law__1379 rfl ?_
        refine s_ifne (pc := 1381) (tgt := 1396) dL_law__1381 rfl (fun h1381 => absurd h1381 (by decide)) (fun h1381 => ?_)
        refine s_aload_n (pc := 1384) (i := 3) dL_law__1384 rfl rfl ?_
        refine m_ic (pc := 1385) (v := 0) dL_law__1385 rfl ?_
        refine m_la (pc := 1386) dL_law__1386 a_560 (vp_in_nI (n := 0) (by omega) (by decide)) ?_
        refine m_nl (v' := v1.toInt64) (uJ_s) ?_
        refine s_iload (pc := 1387) (i := 6) dL_law__1387 rfl ?_
        refine s_i2l (pc := 1389) dL_law__1389 ?_
        refine s_lcmp (pc := 1390) dL_law__1390 ?_
        refine m_nm (v' := 0) (lg_cc) ?_
        refine s_ifeq (pc := 1391) (tgt := 1396) dL_law__1391 rfl (fun h1391 => ?_) (fun h1391 => absurd h1391 (by decide))
        refine s_goto (pc := 1396) (tgt := 2692) dL_law__1396 rfl ?_
        exact hK x1 I2 _ n w _ _ _ _ hg1 (cI_m hg1 hc1 f2) hm2 (by omega) (by omega)
  · obtain ⟨c1, ec1, nc1⟩ := hA k1 e1
    refine ⟨c1, ec1, kt_s ?_⟩
    refine s_istore (pc := 1354) (i := 5) dL_law__1354 (Nat.le_of_ble_eq_true rfl) ?_
    dsimp only [List.set, List.filter]
    refine s_aload_n (pc := 1356) (i := 2) dL_law__1356 rfl rfl ?_
    refine s_aload_n (pc := 1357) (i := 0) dL_law__1357 rfl rfl ?_
    refine s_iload (pc := 1358) (i := 4) dL_law__1358 rfl ?_
    refine m_ic (pc := 1360) (v := 1) dL_law__1360 rfl ?_
    refine s_iadd (pc := 1361) dL_law__1361 ?_
    refine m_nm (v' := nI ((10 * q) + 1)) (nI_add (10 * q) 1) ?_
    refine s_sld (pc := 1362) dL_law__1362 (vp_in_nI (n := (10 * q) + 1) (by omega) (by omega)) ?_
    refine m_nm (v' := gx g (10 * q + 1)) (rdX (by omega)) ?_
    refine m_v1 (pc := 1363) dL_law__1363 lk_L_192 ok_X12_word (rcO o_534 (by decide) rfl) rfl rfl (hM g (d + 36) I1 J (n + 1) (w + 6) _ (mI_c hm f1) (fun v2 I2 e2 _ _ _ => (by rw [e1] at e2; cases e2)) (fun k2 I2 e2 hm2 f2 h0 => kt_s ?_))
    · have ek : k1 = k2 := by rw [e1] at e2; cases e2; rfl
      subst ek
      have h0 : I2 534 0 = c1 := h0.trans (by rw [ec1]; rfl)
      refine s_istore (pc := 1366) (i := 6) dL_law__1366 (Nat.le_of_ble_eq_true rfl) ?_
      dsimp only [List.set, List.filter]
      refine s_aload_n (pc := 1368) (i := 2) dL_law__1368 rfl rfl ?_
      refine m_v0 (pc := 1369) dL_law__1369 lk_L_134 ok_X12_thrown (rcO o_534 (by decide) rfl) rfl rfl (c_X12_thrown h0 (kt_s ?_))
      refine s_iload (pc := 1372) (i := 5) dL_law__1372 rfl ?_
      refine s_iceq (pc := 1374) (tgt := 1379) dL_law__1374 rfl (fun h1374 => ?_) (fun h1374 => absurd (rfl) h1374)
      refine s_iload (pc := 1379) (i := 5) dL_law__1379 rfl ?_
      refine s_ifne (pc := 1381) (tgt := 1396) dL_law__1381 rfl (fun h1381 => ?_) (fun h1381 => absurd h1381 (nc1))
      refine s_goto (pc := 1396) (tgt := 2692) dL_law__1396 rfl ?_
      exact hK x1 I2 J (n + 1) (w + 6) _ _ _ _ hg1 (cI_m hg1 hc1 f2) hm2 (by omega) (by omega)
theorem lw_19 {x : gX} {q : Nat} {v5 v6 v7 : Value} (hN : aNx g) (hL : 10 * q + 10 ≤ gL g) (hL2 : gL g ≤ 5120) (hx : gOk x) (hc : cI x I) (hm : mI x I) (hn : n + 1 ≤ 600000 ∧ w + 6 ≤ 7000000) (hK : ∀ (x' : gX) (I' : Nat → Nat → Int32) (J' : Nat → Nat → Int64) (n' w' : Nat) (v5 v6 v7 : Value) (ll : List (Nat × Int64)), gOk x' → cI x' I' → mI x' I' → n' ≤ n + 1 → w' ≤ w + 6 → Rn g (d + 40) mL_law_ 2692 [.ref 0, .ref 1, .ref 534, .ref 560, .int (nI (10 * q)), v5, v6, v7] ll [] (Z I' J' n' w') Q) : Rn g (d + 40) mL_law_ 1399 [.ref 0, .ref 1, .ref 534, .ref 560, .int (nI (10 * q)), v5, v6, v7] [] [] (Z I J n w) Q := by
  obtain ⟨x1, A1, hg1, hA, hC, hM⟩ := pr_ease (x := gx g (10 * q + 1)) (y := gx g (10 * q + 2)) hx
  refine s_aload_n (pc := 1399) (i := 1) dL_law__1399 rfl rfl ?_
  refine s_aload_n (pc := 1400) (i := 0) dL_law__1400 rfl rfl ?_
  refine s_iload (pc := 1401) (i := 4) dL_law__1401 rfl ?_
  refine m_ic (pc := 1403) (v := 1) dL_law__1403 rfl ?_
  refine s_iadd (pc := 1404) dL_law__1404 ?_
  refine m_nm (v' := nI ((10 * q) + 1)) (nI_add (10 * q) 1) ?_
  refine s_sld (pc := 1405) dL_law__1405 (vp_in_nI (n := (10 * q) + 1) (by omega) (by omega)) ?_
  refine m_nm (v' := gx g (10 * q + 1)) (rdX (by omega)) ?_
  refine s_aload_n (pc := 1406) (i := 0) dL_law__1406 rfl rfl ?_
  refine s_iload (pc := 1407) (i := 4) dL_law__1407 rfl ?_
  refine m_ic (pc := 1409) (v := 2) dL_law__1409 rfl ?_
  refine s_iadd (pc := 1410) dL_law__1410 ?_
  refine m_nm (v' := nI ((10 * q) + 2)) (nI_add (10 * q) 2) ?_
  refine s_sld (pc := 1411) dL_law__1411 (vp_in_nI (n := (10 * q) + 2) (by omega) (by omega)) ?_
  refine m_nm (v' := gx g (10 * q + 2)) (rdX (by omega)) ?_
  refine s_aload_n (pc := 1412) (i := 3) dL_law__1412 rfl rfl ?_
  refine m_h4 (y' := mL_ease) (pc := 1413) dL_law__1413 ml_L_193 ok_L_ease sa_L_ease rfl rfl (c_L_ease hN (hC g (d + 30) I J n w _ hc hn (fun v1 I1 e1 hc1 f1 => ⟨I1, J, n, w, rfl, kt_s ?_⟩) (fun k1 I1 e1 hc1 f1 => ?_)))
  · refine s_istore (pc := 1416) (i := 5) dL_law__1416 (Nat.le_of_ble_eq_true rfl) ?_
    dsimp only [List.set, List.filter]
    refine s_aload_n (pc := 1418) (i := 2) dL_law__1418 rfl rfl ?_
    refine s_aload_n (pc := 1419) (i := 0) dL_law__1419 rfl rfl ?_
    refine s_iload (pc := 1420) (i := 4) dL_law__1420 rfl ?_
    refine m_ic (pc := 1422) (v := 1) dL_law__1422 rfl ?_
    refine s_iadd (pc := 1423) dL_law__1423 ?_
    refine m_nm (v' := nI ((10 * q) + 1)) (nI_add (10 * q) 1) ?_
    refine s_sld (pc := 1424) dL_law__1424 (vp_in_nI (n := (10 * q) + 1) (by omega) (by omega)) ?_
    refine m_nm (v' := gx g (10 * q + 1)) (rdX (by omega)) ?_
    refine s_aload_n (pc := 1425) (i := 0) dL_law__1425 rfl rfl ?_
    refine s_iload (pc := 1426) (i := 4) dL_law__1426 rfl ?_
    refine m_ic (pc := 1428) (v := 2) dL_law__1428 rfl ?_
    refine s_iadd (pc := 1429) dL_law__1429 ?_
    refine m_nm (v' := nI ((10 * q) + 2)) (nI_add (10 * q) 2) ?_
    refine s_sld (pc := 1430) dL_law__1430 (vp_in_nI (n := (10 * q) + 2) (by omega) (by omega)) ?_
    refine m_nm (v' := gx g (10 * q + 2)) (rdX (by omega)) ?_
    refine m_v2 (pc := 1431) dL_law__1431 lk_L_195 ok_X12_ease (rcO o_534 (by decide) rfl) rfl rfl (hM g (d + 37) I1 (upJ J 560 0 v1.toInt64) n w _ (mI_c hm f1) (fun v2 I2 e2 hm2 f2 h0 => kt_s ?_) (fun k2 I2 e2 _ _ _ => (by rw [e1] at e2; cases e2)))
    · have ev : v1 = v2 := by rw [e1] at e2; cases e2; rfl
      subst ev
      refine s_istore (pc := 1434) (i := 6) dL_law__1434 (Nat.le_of_ble_eq_true rfl) ?_
      dsimp only [List.set, List.filter]
      refine s_aload_n (pc := 1436) (i := 2) dL_law__1436 rfl rfl ?_
      refine m_v0 (pc := 1437) dL_law__1437 lk_L_134 ok_X12_thrown (rcO o_534 (by decide) rfl) rfl rfl (c_X12_thrown h0 (kt_s ?_))
      · refine s_iload (pc := 1440) (i := 5) dL_law__1440 rfl ?_
        refine s_iceq (pc := 1442) (tgt := 1447) dL_law__1442 rfl (fun h1442 => ?_) (fun h1442 => absurd h1442 (by decide))
        refine s_iload (pc := 1447) (i := 5) dL_law__1447 rfl ?_
        refine s_ifne (pc := 1449) (tgt := 1464) dL_law__1449 rfl (fun h1449 => absurd h1449 (by decide)) (fun h1449 => ?_)
        refine s_aload_n (pc := 1452) (i := 3) dL_law__1452 rfl rfl ?_
        refine m_ic (pc := 1453) (v := 0) dL_law__1453 rfl ?_
        refine m_la (pc := 1454) dL_law__1454 a_560 (vp_in_nI (n := 0) (by omega) (by decide)) ?_
        refine m_nl (v' := v1.toInt64) (uJ_s) ?_
        refine s_iload (pc := 1455) (i := 6) dL_law__1455 rfl ?_
        refine s_i2l (pc := 1457) dL_law__1457 ?_
        refine s_lcmp (pc := 1458) dL_law__1458 ?_
        refine m_nm (v' := 0) (lg_cc) ?_
        refine s_ifeq (pc := 1459) (tgt := 1464) dL_law__1459 rfl (fun h1459 => ?_) (fun h1459 => absurd h1459 (by decide))
        refine s_goto (pc := 1464) (tgt := 2692) dL_law__1464 rfl ?_
        exact hK x1 I2 _ n w _ _ _ _ hg1 (cI_m hg1 hc1 f2) hm2 (by omega) (by omega)
  · obtain ⟨c1, ec1, nc1⟩ := hA k1 e1
    refine ⟨c1, ec1, kt_s ?_⟩
    refine s_istore (pc := 1416) (i := 5) dL_law__1416 (Nat.le_of_ble_eq_true rfl) ?_
    dsimp only [List.set, List.filter]
    refine s_aload_n (pc := 1418) (i := 2) dL_law__1418 rfl rfl ?_
    refine s_aload_n (pc := 1419) (i := 0) dL_law__1419 rfl rfl ?_
    refine s_iload (pc := 1420) (i := 4) dL_law__1420 rfl ?_
    refine m_ic (pc := 1422) (v := 1) dL_law__1422 rfl ?_
    refine s_iadd (pc := 1423) dL_law__1423 ?_
    refine m_nm (v' := nI ((10 * q) + 1)) (nI_add (10 * q) 1) ?_
    refine s_sld (pc := 1424) dL_law__1424 (vp_in_nI (n := (10 * q) + 1) (by omega) (by omega)) ?_
    refine m_nm (v' := gx g (10 * q + 1)) (rdX (by omega)) ?_
    refine s_aload_n (pc := 1425) (i := 0) dL_law__1425 rfl rfl ?_
    refine s_iload (pc := 1426) (i := 4) dL_law__1426 rfl ?_
    refine m_ic (pc := 1428) (v := 2) dL_law__1428 rfl ?_
    refine s_iadd (pc := 1429) dL_law__1429 ?_
    refine m_nm (v' := nI ((10 * q) + 2)) (nI_add (10 * q) 2) ?_
    refine s_sld (pc := 1430) dL_law__1430 (vp_in_nI (n := (10 * q) + 2) (by omega) (by omega)) ?_
    refine m_nm (v' := gx g (10 * q + 2)) (rdX (by omega)) ?_
    refine m_v2 (pc := 1431) dL_law__1431 lk_L_195 ok_X12_ease (rcO o_534 (by decide) rfl) rfl rfl (hM g (d + 37) I1 J (n + 1) (w + 6) _ (mI_c hm f1) (fun v2 I2 e2 _ _ _ => (by rw [e1] at e2; cases e2)) (fun k2 I2 e2 hm2 f2 h0 => kt_s ?_))
    · have ek : k1 = k2 := by rw [e1] at e2; cases e2; rfl
      subst ek
      have h0 : I2 534 0 = c1 := h0.trans (by rw [ec1]; rfl)
      refine s_istore (pc := 1434) (i := 6) dL_law__1434 (Nat.le_of_ble_eq_true rfl) ?_
      dsimp only [List.set, List.filter]
      refine s_aload_n (pc := 1436) (i := 2) dL_law__1436 rfl rfl ?_
      refine m_v0 (pc := 1437) dL_law__1437 lk_L_134 ok_X12_thrown (rcO o_534 (by decide) rfl) rfl rfl (c_X12_thrown h0 (kt_s ?_))
      refine s_iload (pc := 1440) (i := 5) dL_law__1440 rfl ?_
      refine s_iceq (pc := 1442) (tgt := 1447) dL_law__1442 rfl (fun h1442 => ?_) (fun h1442 => absurd (rfl) h1442)
      refine s_iload (pc := 1447) (i := 5) dL_law__1447 rfl ?_
      refine s_ifne (pc := 1449) (tgt := 1464) dL_law__1449 rfl (fun h1449 => ?_) (fun h1449 => absurd h1449 (nc1))
      refine s_goto (pc := 1464) (tgt := 2692) dL_law__1464 rfl ?_
      exact hK x1 I2 J (n + 1) (w + 6) _ _ _ _ hg1 (cI_m hg1 hc1 f2) hm2 (by omega) (by omega)
end S
