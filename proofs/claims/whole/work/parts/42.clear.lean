section S
variable {g : aG} {d : Nat} {I : Nat → Nat → Int32} {J : Nat → Nat → Int64} {n w : Nat} {Q : aO → aS → Prop}
variable {t : Nat → Nat} {N a : Nat} {σ : aS}
theorem fill_lp {x nx : Nat} {v : Int32} (hx : isA 64 nx x) (hm : nx ≤ 10000) (hq : Q (.inl none) (Z (flI I x nx v) J n w)) : ∀ f i, i ≤ nx → nx - i = f → Rn g (d + 0) mJ7_fill_53178 5 [.ref x, .int v, .int (nI i), .int (nI nx)] [] [] (Z (flI I x i v) J n w) Q := by
  intro f
  induction f with
  | zero =>
    intro i hi hf
    have e : i = nx := by omega
    subst e
    refine s_iload_n (pc := 5) (i := 2) dJ7_fill_53178_5 rfl rfl ?_
    refine s_iload_n (pc := 6) (i := 3) dJ7_fill_53178_6 rfl rfl ?_
    refine s_icge (pc := 7) (tgt := 20) dJ7_fill_53178_7 rfl (fun h7 => ?_) (fun h7 => absurd (nI_le (by omega) (by omega)) h7)
    refine s_return (pc := 20) dJ7_fill_53178_20 rfl ?_
    exact hq
  | succ f ih =>
    intro i hi hf
    refine s_iload_n (pc := 5) (i := 2) dJ7_fill_53178_5 rfl rfl ?_
    refine s_iload_n (pc := 6) (i := 3) dJ7_fill_53178_6 rfl rfl ?_
    refine s_icge (pc := 7) (tgt := 20) dJ7_fill_53178_7 rfl (fun h7 => absurd h7 (nI_ge (by omega) (by omega))) (fun h7 => ?_)
    refine s_aload_n (pc := 10) (i := 0) dJ7_fill_53178_10 rfl rfl ?_
    refine s_iload_n (pc := 11) (i := 2) dJ7_fill_53178_11 rfl rfl ?_
    refine s_iload_n (pc := 12) (i := 1) dJ7_fill_53178_12 rfl rfl ?_
    refine m_is (pc := 13) dJ7_fill_53178_13 hx (vp_in_nI (by omega) (by omega)) ?_
    rw [nI_clamp (by omega), fl_1]
    refine m_inc (pc := 14) (v := 1) dJ7_fill_53178_14 rfl rfl ?_
    dsimp only [List.set, List.filter]
    rw [nI_1]
    refine s_goto (pc := 17) (tgt := 5) dJ7_fill_53178_17 rfl ?_
    exact ih (i + 1) (by omega) (by omega)
theorem c_J7_fill_53178 {x nx : Nat} {v : Int32} (hx : isA 64 nx x) (hm : nx ≤ 10000) (hq : Q (.inl none) (Z (flI I x nx v) J n w)) : Cn g (d + 0) mJ7_fill_53178 [.ref x, .int v] (Z I J n w) Q := by
  show Rn g (d + 0) mJ7_fill_53178 0 [.ref x, .int v, .retAddr 0, .retAddr 0] [] [] (Z I J n w) Q
  refine m_ic (pc := 0) (v := 0) dJ7_fill_53178_0 rfl ?_
  refine s_istore_n (pc := 1) (i := 2) dJ7_fill_53178_1 rfl (Nat.le_of_ble_eq_true rfl) ?_
  dsimp only [List.set, List.filter]
  refine s_aload_n (pc := 2) (i := 0) dJ7_fill_53178_2 rfl rfl ?_
  refine m_al (pc := 3) dJ7_fill_53178_3 hx (by decide) ?_
  refine s_istore_n (pc := 4) (i := 3) dJ7_fill_53178_4 rfl (Nat.le_of_ble_eq_true rfl) ?_
  dsimp only [List.set, List.filter]
  have h := fill_lp (g := g) (d := d) hx hm hq nx 0 (by omega) (by omega)
  rw [fl_0] at h
  exact h
/-- a State at o, a Court, a Book, as the heap is laid -/
def sO (o : Nat) : Prop := isO 9 o ∧ (R0 o 0 = some (o + 1) ∧ isA 64 7 (o + 1)) ∧ (R0 o 1 = some (o + 2) ∧ isA 64 7 (o + 2)) ∧ (R0 o 2 = some (o + 3) ∧ isA 64 7 (o + 3)) ∧ (R0 o 3 = some (o + 4) ∧ isA 64 7 (o + 4)) ∧ (R0 o 4 = some (o + 5) ∧ isA 64 84 (o + 5)) ∧ (R0 o 5 = some (o + 6) ∧ isA 64 12 (o + 6))
theorem sO_33 : sO 33 := by unfold sO; decide +kernel
theorem sO_527 : sO 527 := by unfold sO; decide +kernel
theorem sO_41 : sO 41 := by unfold sO; decide +kernel
theorem sO_48 : sO 48 := by unfold sO; decide +kernel
theorem sO_55 : sO 55 := by unfold sO; decide +kernel
theorem sO_62 : sO 62 := by unfold sO; decide +kernel
theorem sO_69 : sO 69 := by unfold sO; decide +kernel
theorem sO_76 : sO 76 := by unfold sO; decide +kernel
theorem sO_83 : sO 83 := by unfold sO; decide +kernel
theorem sO_90 : sO 90 := by unfold sO; decide +kernel
theorem sO_97 : sO 97 := by unfold sO; decide +kernel
theorem sO_104 : sO 104 := by unfold sO; decide +kernel
theorem sO_111 : sO 111 := by unfold sO; decide +kernel
theorem sO_118 : sO 118 := by unfold sO; decide +kernel
theorem sO_125 : sO 125 := by unfold sO; decide +kernel
theorem sO_132 : sO 132 := by unfold sO; decide +kernel
theorem sO_139 : sO 139 := by unfold sO; decide +kernel
theorem sO_146 : sO 146 := by unfold sO; decide +kernel
theorem sO_155 : sO 155 := by unfold sO; decide +kernel
theorem sO_276 : sO 276 := by unfold sO; decide +kernel
theorem sO_397 : sO 397 := by unfold sO; decide +kernel
theorem sO_163 : sO 163 := by unfold sO; decide +kernel
theorem sO_170 : sO 170 := by unfold sO; decide +kernel
theorem sO_177 : sO 177 := by unfold sO; decide +kernel
theorem sO_184 : sO 184 := by unfold sO; decide +kernel
theorem sO_191 : sO 191 := by unfold sO; decide +kernel
theorem sO_198 : sO 198 := by unfold sO; decide +kernel
theorem sO_205 : sO 205 := by unfold sO; decide +kernel
theorem sO_212 : sO 212 := by unfold sO; decide +kernel
theorem sO_219 : sO 219 := by unfold sO; decide +kernel
theorem sO_226 : sO 226 := by unfold sO; decide +kernel
theorem sO_233 : sO 233 := by unfold sO; decide +kernel
theorem sO_240 : sO 240 := by unfold sO; decide +kernel
theorem sO_247 : sO 247 := by unfold sO; decide +kernel
theorem sO_254 : sO 254 := by unfold sO; decide +kernel
theorem sO_261 : sO 261 := by unfold sO; decide +kernel
theorem sO_268 : sO 268 := by unfold sO; decide +kernel
theorem sO_284 : sO 284 := by unfold sO; decide +kernel
theorem sO_291 : sO 291 := by unfold sO; decide +kernel
theorem sO_298 : sO 298 := by unfold sO; decide +kernel
theorem sO_305 : sO 305 := by unfold sO; decide +kernel
theorem sO_312 : sO 312 := by unfold sO; decide +kernel
theorem sO_319 : sO 319 := by unfold sO; decide +kernel
theorem sO_326 : sO 326 := by unfold sO; decide +kernel
theorem sO_333 : sO 333 := by unfold sO; decide +kernel
theorem sO_340 : sO 340 := by unfold sO; decide +kernel
theorem sO_347 : sO 347 := by unfold sO; decide +kernel
theorem sO_354 : sO 354 := by unfold sO; decide +kernel
theorem sO_361 : sO 361 := by unfold sO; decide +kernel
theorem sO_368 : sO 368 := by unfold sO; decide +kernel
theorem sO_375 : sO 375 := by unfold sO; decide +kernel
theorem sO_382 : sO 382 := by unfold sO; decide +kernel
theorem sO_389 : sO 389 := by unfold sO; decide +kernel
theorem sO_405 : sO 405 := by unfold sO; decide +kernel
theorem sO_412 : sO 412 := by unfold sO; decide +kernel
theorem sO_419 : sO 419 := by unfold sO; decide +kernel
theorem sO_426 : sO 426 := by unfold sO; decide +kernel
theorem sO_433 : sO 433 := by unfold sO; decide +kernel
theorem sO_440 : sO 440 := by unfold sO; decide +kernel
theorem sO_447 : sO 447 := by unfold sO; decide +kernel
theorem sO_454 : sO 454 := by unfold sO; decide +kernel
theorem sO_461 : sO 461 := by unfold sO; decide +kernel
theorem sO_468 : sO 468 := by unfold sO; decide +kernel
theorem sO_475 : sO 475 := by unfold sO; decide +kernel
theorem sO_482 : sO 482 := by unfold sO; decide +kernel
theorem sO_489 : sO 489 := by unfold sO; decide +kernel
theorem sO_496 : sO 496 := by unfold sO; decide +kernel
theorem sO_503 : sO 503 := by unfold sO; decide +kernel
theorem sO_510 : sO 510 := by unfold sO; decide +kernel
theorem sO_1 (i : Nat) (h : i < 16) : sO (41 + 7 * i) := match i, h with
  | 0, _ => sO_41
  | 1, _ => sO_48
  | 2, _ => sO_55
  | 3, _ => sO_62
  | 4, _ => sO_69
  | 5, _ => sO_76
  | 6, _ => sO_83
  | 7, _ => sO_90
  | 8, _ => sO_97
  | 9, _ => sO_104
  | 10, _ => sO_111
  | 11, _ => sO_118
  | 12, _ => sO_125
  | 13, _ => sO_132
  | 14, _ => sO_139
  | 15, _ => sO_146
  | i + 16, h => absurd h (by omega)
theorem sO_2 (i : Nat) (h : i < 3) : sO (155 + 121 * i) := match i, h with
  | 0, _ => sO_155
  | 1, _ => sO_276
  | 2, _ => sO_397
  | i + 3, h => absurd h (by omega)
theorem sO_3_0 (i : Nat) (h : i < 16) : sO (163 + 7 * i) := match i, h with
  | 0, _ => sO_163
  | 1, _ => sO_170
  | 2, _ => sO_177
  | 3, _ => sO_184
  | 4, _ => sO_191
  | 5, _ => sO_198
  | 6, _ => sO_205
  | 7, _ => sO_212
  | 8, _ => sO_219
  | 9, _ => sO_226
  | 10, _ => sO_233
  | 11, _ => sO_240
  | 12, _ => sO_247
  | 13, _ => sO_254
  | 14, _ => sO_261
  | 15, _ => sO_268
  | i + 16, h => absurd h (by omega)
theorem sO_3_1 (i : Nat) (h : i < 16) : sO (284 + 7 * i) := match i, h with
  | 0, _ => sO_284
  | 1, _ => sO_291
  | 2, _ => sO_298
  | 3, _ => sO_305
  | 4, _ => sO_312
  | 5, _ => sO_319
  | 6, _ => sO_326
  | 7, _ => sO_333
  | 8, _ => sO_340
  | 9, _ => sO_347
  | 10, _ => sO_354
  | 11, _ => sO_361
  | 12, _ => sO_368
  | 13, _ => sO_375
  | 14, _ => sO_382
  | 15, _ => sO_389
  | i + 16, h => absurd h (by omega)
theorem sO_3_2 (i : Nat) (h : i < 16) : sO (405 + 7 * i) := match i, h with
  | 0, _ => sO_405
  | 1, _ => sO_412
  | 2, _ => sO_419
  | 3, _ => sO_426
  | 4, _ => sO_433
  | 5, _ => sO_440
  | 6, _ => sO_447
  | 7, _ => sO_454
  | 8, _ => sO_461
  | 9, _ => sO_468
  | 10, _ => sO_475
  | 11, _ => sO_482
  | 12, _ => sO_489
  | 13, _ => sO_496
  | 14, _ => sO_503
  | 15, _ => sO_510
  | i + 16, h => absurd h (by omega)
theorem sO_3 (k i : Nat) (hk : k < 3) (h : i < 16) : sO (163 + 121 * k + 7 * i) := match k, hk with
  | 0, _ => sO_3_0 i h
  | 1, _ => sO_3_1 i h
  | 2, _ => sO_3_2 i h
  | k + 3, h => absurd h (by omega)
def clS (I : Nat → Nat → Int32) (o : Nat) : Nat → Nat → Int32 := up (up (up (flI (flI (flI (flI (flI (flI I (o + 1) 7 0) (o + 2) 7 0) (o + 3) 7 0) (o + 4) 7 0) (o + 5) 84 0) (o + 6) 12 0) o 6 0) o 7 0) o 8 0
def cqS (I : Nat → Nat → Int32) (q o : Nat) : Nat → Nat → Int32 := fun x j => if x = o + 1 ∧ j < 7 then I (q + 1) j else if x = o + 2 ∧ j < 7 then I (q + 2) j else if x = o + 3 ∧ j < 7 then I (q + 3) j else if x = o + 4 ∧ j < 7 then I (q + 4) j else if x = o + 5 ∧ j < 84 then I (q + 5) j else if x = o + 6 ∧ j < 12 then I (q + 6) j else if x = o ∧ j = 6 then I q 6 else if x = o ∧ j = 7 then I q 7 else if x = o ∧ j = 8 then I q 8 else I x j
theorem cqS_eq {q o : Nat} (h : q + 7 ≤ o ∨ o + 7 ≤ q) : up (up (up (cpI (cpI (cpI (cpI (cpI (cpI I (q + 1) (o + 1) 7) (q + 2) (o + 2) 7) (q + 3) (o + 3) 7) (q + 4) (o + 4) 7) (q + 5) (o + 5) 84) (q + 6) (o + 6) 12) o 6 (I q 6)) o 7 (I q 7)) o 8 (I q 8) = cqS I q o := by
  funext x j
  simp only [up, cpI, cqS]
  by_cases h1 : x = o + 1
  · subst h1; simp <;> (intros; (repeat' split) <;> first | rfl | omega)
  by_cases h2 : x = o + 2
  · subst h2; simp <;> (intros; (repeat' split) <;> first | rfl | omega)
  by_cases h3 : x = o + 3
  · subst h3; simp <;> (intros; (repeat' split) <;> first | rfl | omega)
  by_cases h4 : x = o + 4
  · subst h4; simp <;> (intros; (repeat' split) <;> first | rfl | omega)
  by_cases h5 : x = o + 5
  · subst h5; simp <;> (intros; (repeat' split) <;> first | rfl | omega)
  by_cases h6 : x = o + 6
  · subst h6; simp <;> (intros; (repeat' split) <;> first | rfl | omega)
  simp [h1, h2, h3, h4, h5, h6]
  by_cases h0 : x = o
  · subst h0
    by_cases e8 : j = 8
    · subst e8; simp
    by_cases e7 : j = 7
    · subst e7; simp
    simp [e8, e7]
  · simp [h0]
theorem c_X9_clear {o : Nat} (ho : sO o) (hq : Q (.inl none) (Z (clS I o) J n w)) : Cn g (d + 1) mX9_clear [.ref o] (Z I J n w) Q := by
  show Rn g (d + 1) mX9_clear 0 [.ref o] [] [] (Z I J n w) Q
  refine s_aload_n (pc := 0) (i := 0) dX9_clear_0 rfl rfl ?_
  refine m_gr (pc := 1) dX9_clear_1 ff_X9_9 rfl (ho).1 (ho.2.1).1 ?_
  refine m_ic (pc := 4) (v := 0) dX9_clear_4 rfl ?_
  refine m_s2 (pc := 5) dX9_clear_5 lk_X9_30 ok_J7_fill_53178 rfl rfl (c_J7_fill_53178 ho.2.1.2 (by decide) (kt_v ?_))
  refine s_aload_n (pc := 8) (i := 0) dX9_clear_8 rfl rfl ?_
  refine m_gr (pc := 9) dX9_clear_9 ff_X9_15 rfl (ho).1 (ho.2.2.1).1 ?_
  refine m_ic (pc := 12) (v := 0) dX9_clear_12 rfl ?_
  refine m_s2 (pc := 13) dX9_clear_13 lk_X9_30 ok_J7_fill_53178 rfl rfl (c_J7_fill_53178 ho.2.2.1.2 (by decide) (kt_v ?_))
  refine s_aload_n (pc := 16) (i := 0) dX9_clear_16 rfl rfl ?_
  refine m_gr (pc := 17) dX9_clear_17 ff_X9_18 rfl (ho).1 (ho.2.2.2.1).1 ?_
  refine m_ic (pc := 20) (v := 0) dX9_clear_20 rfl ?_
  refine m_s2 (pc := 21) dX9_clear_21 lk_X9_30 ok_J7_fill_53178 rfl rfl (c_J7_fill_53178 ho.2.2.2.1.2 (by decide) (kt_v ?_))
  refine s_aload_n (pc := 24) (i := 0) dX9_clear_24 rfl rfl ?_
  refine m_gr (pc := 25) dX9_clear_25 ff_X9_21 rfl (ho).1 (ho.2.2.2.2.1).1 ?_
  refine m_ic (pc := 28) (v := 0) dX9_clear_28 rfl ?_
  refine m_s2 (pc := 29) dX9_clear_29 lk_X9_30 ok_J7_fill_53178 rfl rfl (c_J7_fill_53178 ho.2.2.2.2.1.2 (by decide) (kt_v ?_))
  refine s_aload_n (pc := 32) (i := 0) dX9_clear_32 rfl rfl ?_
  refine m_gr (pc := 33) dX9_clear_33 ff_X9_24 rfl (ho).1 (ho.2.2.2.2.2.1).1 ?_
  refine m_ic (pc := 36) (v := 0) dX9_clear_36 rfl ?_
  refine m_s2 (pc := 37) dX9_clear_37 lk_X9_30 ok_J7_fill_53178 rfl rfl (c_J7_fill_53178 ho.2.2.2.2.2.1.2 (by decide) (kt_v ?_))
  refine s_aload_n (pc := 40) (i := 0) dX9_clear_40 rfl rfl ?_
  refine m_gr (pc := 41) dX9_clear_41 ff_X9_27 rfl (ho).1 (ho.2.2.2.2.2.2).1 ?_
  refine m_ic (pc := 44) (v := 0) dX9_clear_44 rfl ?_
  refine m_s2 (pc := 45) dX9_clear_45 lk_X9_30 ok_J7_fill_53178 rfl rfl (c_J7_fill_53178 ho.2.2.2.2.2.2.2 (by decide) (kt_v ?_))
  refine s_aload_n (pc := 48) (i := 0) dX9_clear_48 rfl rfl ?_
  refine m_ic (pc := 49) (v := 0) dX9_clear_49 rfl ?_
  refine m_pi (pc := 50) dX9_clear_50 ff_X9_36 rfl rfl (ho).1 ?_
  refine s_aload_n (pc := 53) (i := 0) dX9_clear_53 rfl rfl ?_
  refine m_ic (pc := 54) (v := 0) dX9_clear_54 rfl ?_
  refine m_pi (pc := 55) dX9_clear_55 ff_X9_40 rfl rfl (ho).1 ?_
  refine s_aload_n (pc := 58) (i := 0) dX9_clear_58 rfl rfl ?_
  refine m_ic (pc := 59) (v := 0) dX9_clear_59 rfl ?_
  refine m_pi (pc := 60) dX9_clear_60 ff_X9_43 rfl rfl (ho).1 ?_
  refine s_return (pc := 63) dX9_clear_63 rfl ?_
  exact hq
theorem c_X9_copyFrom {o q : Nat} (ho : sO o) (hq2 : sO q) (hqo : q + 7 ≤ o ∨ o + 7 ≤ q) (hq : Q (.inl none) (Z (cqS I q o) J n w)) : Cn g (d + 1) mX9_copyFrom [.ref o, .ref q] (Z I J n w) Q := by
  show Rn g (d + 1) mX9_copyFrom 0 [.ref o, .ref q] [] [] (Z I J n w) Q
  refine s_aload_n (pc := 0) (i := 1) dX9_copyFrom_0 rfl rfl ?_
  refine m_gr (pc := 1) dX9_copyFrom_1 ff_X9_9 rfl (hq2).1 (hq2.2.1).1 ?_
  refine m_ic (pc := 4) (v := 0) dX9_copyFrom_4 rfl ?_
  refine s_aload_n (pc := 5) (i := 0) dX9_copyFrom_5 rfl rfl ?_
  refine m_gr (pc := 6) dX9_copyFrom_6 ff_X9_9 rfl (ho).1 (ho.2.1).1 ?_
  refine m_ic (pc := 9) (v := 0) dX9_copyFrom_9 rfl ?_
  refine m_bi (pc := 10) (v := 7) dX9_copyFrom_10 rfl ?_
  refine m_cp (pc := 12) dX9_copyFrom_12 ml_X9_46 (hq2.2.1).2 (ho.2.1).2 (by omega) (by decide) rfl (by decide) (by decide) (Nat.le_of_ble_eq_true rfl) ?_
  refine s_aload_n (pc := 15) (i := 1) dX9_copyFrom_15 rfl rfl ?_
  refine m_gr (pc := 16) dX9_copyFrom_16 ff_X9_15 rfl (hq2).1 (hq2.2.2.1).1 ?_
  refine m_ic (pc := 19) (v := 0) dX9_copyFrom_19 rfl ?_
  refine s_aload_n (pc := 20) (i := 0) dX9_copyFrom_20 rfl rfl ?_
  refine m_gr (pc := 21) dX9_copyFrom_21 ff_X9_15 rfl (ho).1 (ho.2.2.1).1 ?_
  refine m_ic (pc := 24) (v := 0) dX9_copyFrom_24 rfl ?_
  refine m_bi (pc := 25) (v := 7) dX9_copyFrom_25 rfl ?_
  refine m_cp (pc := 27) dX9_copyFrom_27 ml_X9_46 (hq2.2.2.1).2 (ho.2.2.1).2 (by omega) (by decide) rfl (by decide) (by decide) (Nat.le_of_ble_eq_true rfl) ?_
  refine s_aload_n (pc := 30) (i := 1) dX9_copyFrom_30 rfl rfl ?_
  refine m_gr (pc := 31) dX9_copyFrom_31 ff_X9_18 rfl (hq2).1 (hq2.2.2.2.1).1 ?_
  refine m_ic (pc := 34) (v := 0) dX9_copyFrom_34 rfl ?_
  refine s_aload_n (pc := 35) (i := 0) dX9_copyFrom_35 rfl rfl ?_
  refine m_gr (pc := 36) dX9_copyFrom_36 ff_X9_18 rfl (ho).1 (ho.2.2.2.1).1 ?_
  refine m_ic (pc := 39) (v := 0) dX9_copyFrom_39 rfl ?_
  refine m_bi (pc := 40) (v := 7) dX9_copyFrom_40 rfl ?_
  refine m_cp (pc := 42) dX9_copyFrom_42 ml_X9_46 (hq2.2.2.2.1).2 (ho.2.2.2.1).2 (by omega) (by decide) rfl (by decide) (by decide) (Nat.le_of_ble_eq_true rfl) ?_
  refine s_aload_n (pc := 45) (i := 1) dX9_copyFrom_45 rfl rfl ?_
  refine m_gr (pc := 46) dX9_copyFrom_46 ff_X9_21 rfl (hq2).1 (hq2.2.2.2.2.1).1 ?_
  refine m_ic (pc := 49) (v := 0) dX9_copyFrom_49 rfl ?_
  refine s_aload_n (pc := 50) (i := 0) dX9_copyFrom_50 rfl rfl ?_
  refine m_gr (pc := 51) dX9_copyFrom_51 ff_X9_21 rfl (ho).1 (ho.2.2.2.2.1).1 ?_
  refine m_ic (pc := 54) (v := 0) dX9_copyFrom_54 rfl ?_
  refine m_bi (pc := 55) (v := 7) dX9_copyFrom_55 rfl ?_
  refine m_cp (pc := 57) dX9_copyFrom_57 ml_X9_46 (hq2.2.2.2.2.1).2 (ho.2.2.2.2.1).2 (by omega) (by decide) rfl (by decide) (by decide) (Nat.le_of_ble_eq_true rfl) ?_
  refine s_aload_n (pc := 60) (i := 1) dX9_copyFrom_60 rfl rfl ?_
  refine m_gr (pc := 61) dX9_copyFrom_61 ff_X9_24 rfl (hq2).1 (hq2.2.2.2.2.2.1).1 ?_
  refine m_ic (pc := 64) (v := 0) dX9_copyFrom_64 rfl ?_
  refine s_aload_n (pc := 65) (i := 0) dX9_copyFrom_65 rfl rfl ?_
  refine m_gr (pc := 66) dX9_copyFrom_66 ff_X9_24 rfl (ho).1 (ho.2.2.2.2.2.1).1 ?_
  refine m_ic (pc := 69) (v := 0) dX9_copyFrom_69 rfl ?_
  refine m_bi (pc := 70) (v := 84) dX9_copyFrom_70 rfl ?_
  refine m_cp (pc := 72) dX9_copyFrom_72 ml_X9_46 (hq2.2.2.2.2.2.1).2 (ho.2.2.2.2.2.1).2 (by omega) (by decide) rfl (by decide) (by decide) (Nat.le_of_ble_eq_true rfl) ?_
  refine s_aload_n (pc := 75) (i := 1) dX9_copyFrom_75 rfl rfl ?_
  refine m_gr (pc := 76) dX9_copyFrom_76 ff_X9_27 rfl (hq2).1 (hq2.2.2.2.2.2.2).1 ?_
  refine m_ic (pc := 79) (v := 0) dX9_copyFrom_79 rfl ?_
  refine s_aload_n (pc := 80) (i := 0) dX9_copyFrom_80 rfl rfl ?_
  refine m_gr (pc := 81) dX9_copyFrom_81 ff_X9_27 rfl (ho).1 (ho.2.2.2.2.2.2).1 ?_
  refine m_ic (pc := 84) (v := 0) dX9_copyFrom_84 rfl ?_
  refine m_bi (pc := 85) (v := 12) dX9_copyFrom_85 rfl ?_
  refine m_cp (pc := 87) dX9_copyFrom_87 ml_X9_46 (hq2.2.2.2.2.2.2).2 (ho.2.2.2.2.2.2).2 (by omega) (by decide) rfl (by decide) (by decide) (Nat.le_of_ble_eq_true rfl) ?_
  refine s_aload_n (pc := 90) (i := 0) dX9_copyFrom_90 rfl rfl ?_
  refine s_aload_n (pc := 91) (i := 1) dX9_copyFrom_91 rfl rfl ?_
  refine m_gi (pc := 92) dX9_copyFrom_92 ff_X9_36 rfl (hq2).1 ?_
  refine m_nm (v' := I q 6) (by simp only [up, cpI]; (repeat rw [if_neg (by omega)])) ?_
  refine m_pi (pc := 95) dX9_copyFrom_95 ff_X9_36 rfl rfl (ho).1 ?_
  refine s_aload_n (pc := 98) (i := 0) dX9_copyFrom_98 rfl rfl ?_
  refine s_aload_n (pc := 99) (i := 1) dX9_copyFrom_99 rfl rfl ?_
  refine m_gi (pc := 100) dX9_copyFrom_100 ff_X9_40 rfl (hq2).1 ?_
  refine m_nm (v' := I q 7) (by simp only [up, cpI]; (repeat rw [if_neg (by omega)])) ?_
  refine m_pi (pc := 103) dX9_copyFrom_103 ff_X9_40 rfl rfl (ho).1 ?_
  refine s_aload_n (pc := 106) (i := 0) dX9_copyFrom_106 rfl rfl ?_
  refine s_aload_n (pc := 107) (i := 1) dX9_copyFrom_107 rfl rfl ?_
  refine m_gi (pc := 108) dX9_copyFrom_108 ff_X9_43 rfl (hq2).1 ?_
  refine m_nm (v' := I q 8) (by simp only [up, cpI]; (repeat rw [if_neg (by omega)])) ?_
  refine m_pi (pc := 111) dX9_copyFrom_111 ff_X9_43 rfl rfl (ho).1 ?_
  refine s_return (pc := 114) dX9_copyFrom_114 rfl ?_
  exact Q_cg (cqS_eq hqo) hq
theorem c_X0_clear (hq : Q (.inl none) (Z (up (flI I 23 7 (-1)) 22 1 0) J n w)) : Cn g (d + 1) mX0_clear [.ref 22] (Z I J n w) Q := by
  show Rn g (d + 1) mX0_clear 0 [.ref 22] [] [] (Z I J n w) Q
  refine s_aload_n (pc := 0) (i := 0) dX0_clear_0 rfl rfl ?_
  refine m_gr (pc := 1) dX0_clear_1 ff_X0_9 rfl o_22 r_22_0 ?_
  refine m_ic (pc := 4) (v := -1) dX0_clear_4 rfl ?_
  refine m_s2 (pc := 5) dX0_clear_5 lk_X0_18 ok_J7_fill_53178 rfl rfl (c_J7_fill_53178 a_23 (by decide) (kt_v ?_))
  refine s_aload_n (pc := 8) (i := 0) dX0_clear_8 rfl rfl ?_
  refine m_ic (pc := 9) (v := 0) dX0_clear_9 rfl ?_
  refine m_pi (pc := 10) dX0_clear_10 ff_X0_24 rfl rfl o_22 ?_
  refine s_return (pc := 13) dX0_clear_13 rfl ?_
  exact hq
theorem c_X0_clear_d (hq : Q (.inl none) (Z (up (flI I 25 7 (-1)) 24 1 0) J n w)) : Cn g (d + 1) mX0_clear [.ref 24] (Z I J n w) Q := by
  show Rn g (d + 1) mX0_clear 0 [.ref 24] [] [] (Z I J n w) Q
  refine s_aload_n (pc := 0) (i := 0) dX0_clear_0 rfl rfl ?_
  refine m_gr (pc := 1) dX0_clear_1 ff_X0_9 rfl o_24 r_24_0 ?_
  refine m_ic (pc := 4) (v := -1) dX0_clear_4 rfl ?_
  refine m_s2 (pc := 5) dX0_clear_5 lk_X0_18 ok_J7_fill_53178 rfl rfl (c_J7_fill_53178 a_25 (by decide) (kt_v ?_))
  refine s_aload_n (pc := 8) (i := 0) dX0_clear_8 rfl rfl ?_
  refine m_ic (pc := 9) (v := 0) dX0_clear_9 rfl ?_
  refine m_pi (pc := 10) dX0_clear_10 ff_X0_24 rfl rfl o_24 ?_
  refine s_return (pc := 13) dX0_clear_13 rfl ?_
  exact hq
theorem c_X5_clear (hq : Q (.inl none) (Z (up (clS I 33) 32 2 0) J n w)) : Cn g (d + 2) mX5_clear [.ref 32] (Z I J n w) Q := by
  show Rn g (d + 2) mX5_clear 0 [.ref 32] [] [] (Z I J n w) Q
  refine s_aload_n (pc := 0) (i := 0) dX5_clear_0 rfl rfl ?_
  refine m_gr (pc := 1) dX5_clear_1 ff_X5_12 rfl o_32 r_32_0 ?_
  refine m_v0 (pc := 4) dX5_clear_4 lk_X5_22 ok_X9_clear (rcO o_33 (by decide) rfl) rfl rfl (c_X9_clear sO_33 (kt_v ?_))
  refine s_aload_n (pc := 7) (i := 0) dX5_clear_7 rfl rfl ?_
  refine m_ic (pc := 8) (v := 0) dX5_clear_8 rfl ?_
  refine m_pi (pc := 9) dX5_clear_9 ff_X5_25 rfl rfl o_32 ?_
  refine s_return (pc := 12) dX5_clear_12 rfl ?_
  exact hq
end S
