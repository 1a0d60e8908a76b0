section S
variable {g : aG} {d : Nat} {I : Nat → Nat → Int32} {J : Nat → Nat → Int64} {n w : Nat} {Q : aO → aS → Prop}
variable {y : aM} {pc : Nat} {l : List Value} {ll : List (Nat × Int64)} {st : List Value} {R : Nat → Nat → Option Nat} {L : Nat}
/-- while the cells are made: all that are made are laid -/
def Kz (I : Nat → Nat → Int32) (J : Nat → Nat → Int64) (R : Nat → Nat → Option Nat) (L w : Nat) : aS := (I, J, R, L, L, w)
def J0 : Nat → Nat → Int64 := fun _ _ => 0
def rN (R : Nat → Nat → Option Nat) (o : Nat) : Nat → Nat → Option Nat := fun x j => if x = o then none else R x j
def upR (R : Nat → Nat → Option Nat) (o k b : Nat) : Nat → Nat → Option Nat := fun x j => if x = o ∧ j = k then some b else R x j
abbrev isOL (L ci a : Nat) : Prop := S0 a = ci ∧ 1 ≤ a ∧ a ≤ L
abbrev isAL (L t n a : Nat) : Prop := S0 a = t ∧ L0 a = n ∧ 1 ≤ a ∧ a ≤ L
def zI (L : Nat) (I : Nat → Nat → Int32) : Prop := ∀ a j, L < a → I a j = 0
theorem k_gi {idx ci k a : Nat} (hd : decode y.2.1 pc = .ok (.getfield idx, 3)) (hf : fldW y.1.cls idx ci k) (hr : (cty ci k).isReference = false) (ho : isOL L ci a) (kk : Rn g d y (pc + 3) l ll (.int (I a k) :: st) (Kz I J R L w) Q) : Rn g d y pc l ll (.ref a :: st) (Kz I J R L w) Q := s_geti hd hf hr ho.1 ho.2.1 ho.2.2 kk
theorem k_gr {idx ci k a b : Nat} (hd : decode y.2.1 pc = .ok (.getfield idx, 3)) (hf : fldW y.1.cls idx ci k) (hr : (cty ci k).isReference = true) (ho : isOL L ci a) (hb : R a k = some b) (kk : Rn g d y (pc + 3) l ll (.ref b :: st) (Kz I J R L w) Q) : Rn g d y pc l ll (.ref a :: st) (Kz I J R L w) Q := s_getr hd hf hr ho.1 ho.2.1 ho.2.2 hb kk
theorem k_pi {idx ci k a : Nat} {v : Int32} (hd : decode y.2.1 pc = .ok (.putfield idx, 3)) (hf : fldW y.1.cls idx ci k) (hr : cty ci k = .int) (hfin : (fT ci k).2.2.2 = false) (ho : isOL L ci a) (kk : Rn g d y (pc + 3) l ll st (Kz (up I a k v) J R L w) Q) : Rn g d y pc l ll (.int v :: .ref a :: st) (Kz I J R L w) Q := s_puti hd hf hr ho.1 ho.2.1 ho.2.2 hfin kk
theorem k_pr {idx ci k a b : Nat} (hd : decode y.2.1 pc = .ok (.putfield idx, 3)) (hf : fldW y.1.cls idx ci k) (hr : (cty ci k).isReference = true) (hfin : (fT ci k).2.2.2 = true) (hini : y.1.name = "<init>") (hdc : (fT ci k).1 = y.1.cls) (ho : isOL L ci a) (kk : Rn g d y (pc + 3) l ll st (Kz I J (upR R a k b) L w) Q) : Rn g d y pc l ll (.ref b :: .ref a :: st) (Kz I J R L w) Q := s_putr hd hf hr ho.1 ho.2.1 ho.2.2 hfin hini hdc kk
theorem k_ia {a N : Nat} {i : Int32} (hd : decode y.2.1 pc = .ok (.iaload, 1)) (ha : isAL L 64 N a) (hi : vp_in i N) (kk : Rn g d y (pc + 1) l ll (.int (I a i.toNatClampNeg) :: st) (Kz I J R L w) Q) : Rn g d y pc l ll (.int i :: .ref a :: st) (Kz I J R L w) Q := s_iald hd ha.1 ha.2.2.1 ha.2.2.2 (by rw [ha.2.1]; exact hi) kk
theorem k_is {a N : Nat} {i x : Int32} (hd : decode y.2.1 pc = .ok (.iastore, 1)) (ha : isAL L 64 N a) (hi : vp_in i N) (kk : Rn g d y (pc + 1) l ll st (Kz (up I a i.toNatClampNeg x) J R L w) Q) : Rn g d y pc l ll (.int x :: .int i :: .ref a :: st) (Kz I J R L w) Q := s_iast hd ha.1 ha.2.2.1 ha.2.2.2 (by rw [ha.2.1]; exact hi) kk
theorem k_al {a N t : Nat} (hd : decode y.2.1 pc = .ok (.arraylength, 1)) (ha : isAL L t N a) (ht : 64 ≤ t ∧ t ≤ 68) (kk : Rn g d y (pc + 1) l ll (.int (nI N) :: st) (Kz I J R L w) Q) : Rn g d y pc l ll (.ref a :: st) (Kz I J R L w) Q := s_alen hd (by rw [ha.1]; exact ht.1) (by rw [ha.1]; exact ht.2) ha.2.2.1 ha.2.2.2 (by rw [ha.2.1]; exact kk)
theorem k_as {a b t ci N : Nat} {i : Int32} (hd : decode y.2.1 pc = .ok (.aastore, 1)) (ha : isAL L t N a) (ht : (t = 67 ∧ ci = 9) ∨ (t = 68 ∧ ci = 5)) (hi : vp_in i N) (hb : isOL L ci b) (kk : Rn g d y (pc + 1) l ll st (Kz I J (upR R a i.toNatClampNeg b) L w) Q) : Rn g d y pc l ll (.ref b :: .int i :: .ref a :: st) (Kz I J R L w) Q := s_aast hd ha.1 ht ha.2.2.1 ha.2.2.2 (by rw [ha.2.1]; exact hi) hb.1 hb.2.1 hb.2.2 kk
theorem nS_n {n : Nat} (hz : ∀ j, I (L + 1) j = 0) : nS (Kz I J0 R L w) n = Kz I J0 (rN R (L + 1)) (L + 1) (w + n) := by
  unfold nS Kz rN
  have e1 : (fun x j => if x = L + 1 then (0 : Int32) else I x j) = I := by
    funext x j
    by_cases h : x = L + 1
    · rw [if_pos h, h, hz]
    · rw [if_neg h]
  have e2 : (fun (x _j : Nat) => if x = L + 1 then (0 : Int64) else 0) = J0 := by
    funext x j
    show (if x = L + 1 then (0 : Int64) else 0) = 0
    split <;> rfl
  exact Prod.ext e1 (Prod.ext e2 rfl)
theorem rN_r {o : Nat} (h : ∀ j, R o j = none) : rN R o = R := by
  funext x j
  unfold rN
  by_cases e : x = o
  · rw [if_pos e, e, h]
  · rw [if_neg e]
theorem k_new {idx ci L' w' : Nat} (hd : decode y.2.1 pc = .ok (.new idx, 3)) (hcl : Cond.classLink y.1.cls idx (cR ci) ∈ lw_good) (hc : ci < 13) (hS : S0 L' = ci) (e1 : L' = L + 1) (e2 : w' = w + cN ci) (hb : L' ≤ 600 ∧ w' ≤ 100000) (hz : ∀ j, I L' j = 0) (kk : Rn g d y (pc + 3) l ll (.ref L' :: st) (Kz I J0 (rN R L') L' w') Q) : Rn g d y pc l ll st (Kz I J0 R L w) Q := by
  subst e1; subst e2
  refine s_new hd hcl hc rfl hS (by show L + 1 ≤ _; omega) (by show w + _ ≤ _; omega) ?_
  rw [nS_n hz]; exact kk
theorem k_na {t n L' w' : Nat} {atype : ArrayType} {x : Int32} (hd : decode y.2.1 pc = .ok (.newarray atype, 2)) (hty : newarray.typeOf atype = aty t) (ht : t = 64 ∨ t = 65 ∨ t = 66) (hcl : Cond.arrayClass (aty t) ∈ lw_good) (hx : ¬ x < 0) (hn : x.toNatClampNeg = n) (hn2 : n ≤ 10000) (hS : S0 L' = t) (hL : L0 L' = n) (e1 : L' = L + 1) (e2 : w' = w + n) (hb : L' ≤ 600 ∧ w' ≤ 100000) (hz : ∀ j, I L' j = 0) (hR : ∀ j, R L' j = none) (kk : Rn g d y (pc + 2) l ll (.ref L' :: st) (Kz I J0 R L' w') Q) : Rn g d y pc l ll (.int x :: st) (Kz I J0 R L w) Q := by
  subst e1; subst e2
  refine s_newarr hd hty ht hcl hx hn hn2 rfl hS hL (by show L + 1 ≤ _; omega) (by show w + _ ≤ _; omega) ?_
  rw [nS_n hz, rN_r hR]; exact kk
theorem k_an {t ci n idx L' w' : Nat} {x : Int32} (hd : decode y.2.1 pc = .ok (.anewarray idx, 3)) (ht : (t = 67 ∧ ci = 9) ∨ (t = 68 ∧ ci = 5)) (hcl : Cond.classLink y.1.cls idx (cR ci) ∈ lw_good) (hao : Cond.arrayOver (.object (cR ci)) ∈ lw_tbl) (hx : ¬ x < 0) (hn : x.toNatClampNeg = n) (hn2 : n ≤ 10000) (hS : S0 L' = t) (hL : L0 L' = n) (e1 : L' = L + 1) (e2 : w' = w + n) (hb : L' ≤ 600 ∧ w' ≤ 100000) (hz : ∀ j, I L' j = 0) (kk : Rn g d y (pc + 3) l ll (.ref L' :: st) (Kz I J0 (rN R L') L' w') Q) : Rn g d y pc l ll (.int x :: st) (Kz I J0 R L w) Q := by
  subst e1; subst e2
  refine s_anew hd ht hcl hao hx hn hn2 rfl hS hL (by show L + 1 ≤ _; omega) (by show w + _ ≤ _; omega) ?_
  rw [nS_n hz]; exact kk
theorem k_R {R' : Nat → Nat → Option Nat} (e : R = R') (kk : Rn g d y pc l ll st (Kz I J R' L w) Q) : Rn g d y pc l ll st (Kz I J R L w) Q := by rw [e]; exact kk
theorem rcK {ci a : Nat} {C : String} (h : isOL L ci a) (hc : ci < 13) (hC : cR ci = C) : rcv (Kz I J R L w) a C := Or.inl ⟨ci, hc, hC, h.1, h.2.1, h.2.2⟩
theorem zI_u {a k : Nat} {v : Int32} (h : zI L I) (ha : a ≤ L) : zI L (up I a k v) := fun x j hx => (up_a (by omega)).trans (h x j hx)
theorem zI_f {a n : Nat} {v : Int32} (h : zI L I) (ha : a ≤ L) : zI L (flI I a n v) := fun x j hx => (fl_x (by omega)).trans (h x j hx)
theorem zI_m {L' : Nat} (h : zI L I) (hl : L ≤ L') : zI L' I := fun x j hx => h x j (by omega)
theorem zI_us {o : Nat} (h : zI L I) (ho : o + 1 ≤ L) : zI L (usL I o) := by
  unfold usL
  exact zI_u (zI_u (zI_u (zI_u (zI_u (zI_u (zI_u (zI_u (zI_u (zI_u (zI_u h (by omega)) (by omega)) (by omega)) (by omega)) (by omega)) (by omega)) (by omega)) (by omega)) (by omega)) (by omega)) (by omega)
theorem kA {t n a : Nat} (h : isA t n a) (ha : a ≤ L) : isAL L t n a := ⟨h.1, h.2.1, h.2.2.1, ha⟩
theorem kO {ci a : Nat} (h : isO ci a) (ha : a ≤ L) : isOL L ci a := ⟨h.1, h.2.1, ha⟩
def lOK (R : Nat → Nat → Option Nat) (L o : Nat) : Prop := isOL L 4 o ∧ (R o 0 = some (o + 1) ∧ isAL L 64 150 (o + 1))
variable {bk op : Int32} {a : Nat}
theorem kfill_lp {x nx : Nat} {v : Int32} (hx : isAL L 64 nx x) (hm : nx ≤ 10000) (hq : Q (.inl none) (Kz (flI I x nx v) J R L w)) : ∀ f i, i ≤ nx → nx - i = f → Rn g (d + 0) mJ7_fill_53178 5 [.ref x, .int v, .int (nI i), .int (nI nx)] [] [] (Kz (flI I x i v) J R L w) Q := by
  intro f
  induction f with
  | zero =>
    intro i hi hf
    have e : i = nx := by omega
    subst e
    refine s_iload_n (pc := 5) (i := 2) dJ7_fill_53178_5 rfl rfl ?_
    refine s_iload_n (pc := 6) (i := 3) dJ7_fill_53178_6 rfl rfl ?_
    refine s_icge (pc := 7) (tgt := 20) dJ7_fill_53178_7 rfl (fun h7 => ?_) (fun h7 => absurd (nI_le (by omega) (by omega)) h7)
    refine s_return (pc := 20) dJ7_fill_53178_20 rfl ?_
    exact hq
  | succ f ih =>
    intro i hi hf
    refine s_iload_n (pc := 5) (i := 2) dJ7_fill_53178_5 rfl rfl ?_
    refine s_iload_n (pc := 6) (i := 3) dJ7_fill_53178_6 rfl rfl ?_
    refine s_icge (pc := 7) (tgt := 20) dJ7_fill_53178_7 rfl (fun h7 => absurd h7 (nI_ge (by omega) (by omega))) (fun h7 => ?_)
    refine s_aload_n (pc := 10) (i := 0) dJ7_fill_53178_10 rfl rfl ?_
    refine s_iload_n (pc := 11) (i := 2) dJ7_fill_53178_11 rfl rfl ?_
    refine s_iload_n (pc := 12) (i := 1) dJ7_fill_53178_12 rfl rfl ?_
    refine k_is (pc := 13) dJ7_fill_53178_13 hx (vp_in_nI (by omega) (by omega)) ?_
    rw [nI_clamp (by omega), fl_1]
    refine m_inc (pc := 14) (v := 1) dJ7_fill_53178_14 rfl rfl ?_
    dsimp only [List.set, List.filter]
    rw [nI_1]
    refine s_goto (pc := 17) (tgt := 5) dJ7_fill_53178_17 rfl ?_
    exact ih (i + 1) (by omega) (by omega)
theorem kc_fill {x nx : Nat} {v : Int32} (hx : isAL L 64 nx x) (hm : nx ≤ 10000) (hq : Q (.inl none) (Kz (flI I x nx v) J R L w)) : Cn g (d + 0) mJ7_fill_53178 [.ref x, .int v] (Kz I J R L w) Q := by
  show Rn g (d + 0) mJ7_fill_53178 0 [.ref x, .int v, .retAddr 0, .retAddr 0] [] [] (Kz I J R L w) Q
  refine m_ic (pc := 0) (v := 0) dJ7_fill_53178_0 rfl ?_
  refine s_istore_n (pc := 1) (i := 2) dJ7_fill_53178_1 rfl (Nat.le_of_ble_eq_true rfl) ?_
  dsimp only [List.set, List.filter]
  refine s_aload_n (pc := 2) (i := 0) dJ7_fill_53178_2 rfl rfl ?_
  refine k_al (pc := 3) dJ7_fill_53178_3 hx (by decide) ?_
  refine s_istore_n (pc := 4) (i := 3) dJ7_fill_53178_4 rfl (Nat.le_of_ble_eq_true rfl) ?_
  dsimp only [List.set, List.filter]
  have h := kfill_lp (g := g) (d := d) hx hm hq nx 0 (by omega) (by omega)
  rw [fl_0] at h
  exact h
theorem kc_X0_clear {o : Nat} (ho : isOL L 0 o ∧ R o 0 = some (o + 1) ∧ isAL L 64 7 (o + 1)) (hq : Q (.inl none) (Kz (up (flI I (o + 1) 7 (-1)) o 1 0) J R L w)) : Cn g (d + 1) mX0_clear [.ref o] (Kz I J R L w) Q := by
  show Rn g (d + 1) mX0_clear 0 [.ref o] [] [] (Kz I J R L w) Q
  refine s_aload_n (pc := 0) (i := 0) dX0_clear_0 rfl rfl ?_
  refine k_gr (pc := 1) dX0_clear_1 ff_X0_9 rfl ho.1 ho.2.1 ?_
  refine m_ic (pc := 4) (v := -1) dX0_clear_4 rfl ?_
  refine m_s2 (pc := 5) dX0_clear_5 lk_X0_18 ok_J7_fill_53178 rfl rfl (kc_fill ho.2.2 (by decide) (kt_v ?_))
  refine s_aload_n (pc := 8) (i := 0) dX0_clear_8 rfl rfl ?_
  refine m_ic (pc := 9) (v := 0) dX0_clear_9 rfl ?_
  refine k_pi (pc := 10) dX0_clear_10 ff_X0_24 rfl rfl ho.1 ?_
  refine s_return (pc := 13) dX0_clear_13 rfl ?_
  exact hq
theorem kc_X4_add {o m : Nat} {v : Int32} (ho : lOK R L o) (hm : I o 3 = nI m) (hm2 : m < 150) (hq : Q (.inl (some (.int 1))) (Kz (up (up I (o + 1) m v) o 3 (nI (m + 1))) J R L w)) : Cn g (d + 0) mX4_add [.ref o, .int v] (Kz I J R L w) Q := by
  show Rn g (d + 0) mX4_add 0 [.ref o, .int v] [] [] (Kz I J R L w) Q
  refine s_aload_n (pc := 0) (i := 0) dX4_add_0 rfl rfl ?_
  refine k_gi (pc := 1) dX4_add_1 ff_X4_24 rfl (ho).1 ?_
  refine m_nm (v' := nI m) (hm) ?_
  refine m_si (pc := 4) (v := 150) dX4_add_4 rfl ?_
  refine s_icge (pc := 7) (tgt := 30) dX4_add_7 rfl (fun h7 => absurd h7 (nI_ge (a := m) (b := 150) (by omega) (by omega))) (fun h7 => ?_)
  refine s_aload_n (pc := 10) (i := 0) dX4_add_10 rfl rfl ?_
  refine k_gr (pc := 11) dX4_add_11 ff_X4_9 rfl (ho).1 (ho.2).1 ?_
  refine s_aload_n (pc := 14) (i := 0) dX4_add_14 rfl rfl ?_
  refine k_gi (pc := 15) dX4_add_15 ff_X4_24 rfl (ho).1 ?_
  refine m_nm (v' := nI m) (hm) ?_
  refine s_iload_n (pc := 18) (i := 1) dX4_add_18 rfl rfl ?_
  refine k_is (pc := 19) dX4_add_19 (ho.2).2 (vp_in_nI (by omega) (by omega)) ?_
  refine s_aload_n (pc := 20) (i := 0) dX4_add_20 rfl rfl ?_
  refine s_dup (pc := 21) dX4_add_21 rfl ?_
  refine k_gi (pc := 22) dX4_add_22 ff_X4_24 rfl (ho).1 ?_
  refine m_nm (v' := nI m) (by rw [up_a (by omega)]; exact hm) ?_
  refine m_ic (pc := 25) (v := 1) dX4_add_25 rfl ?_
  refine s_iadd (pc := 26) dX4_add_26 ?_
  refine m_nm (v' := nI (m + 1)) (nI_1 _) ?_
  refine k_pi (pc := 27) dX4_add_27 ff_X4_24 rfl rfl (ho).1 ?_
  refine m_ic (pc := 30) (v := 1) dX4_add_30 rfl ?_
  refine s_ireturn (pc := 31) dX4_add_31 rfl rfl ?_
  rw [nI_clamp (by omega)]
  exact hq
theorem kc_X4_beUsual {o : Nat} (ho : lOK R L o) (hq : Q (.inl none) (Kz (usL I o) J R L w)) : Cn g (d + 1) mX4_beUsual [.ref o] (Kz I J R L w) Q := by
  show Rn g (d + 1) mX4_beUsual 0 [.ref o] [] [] (Kz I J R L w) Q
  refine s_aload_n (pc := 0) (i := 0) dX4_beUsual_0 rfl rfl ?_
  refine m_ic (pc := 1) (v := 0) dX4_beUsual_1 rfl ?_
  refine k_pi (pc := 2) dX4_beUsual_2 ff_X4_24 rfl rfl (ho).1 ?_
  refine s_aload_n (pc := 5) (i := 0) dX4_beUsual_5 rfl rfl ?_
  refine m_si (pc := 6) (v := 1000) dX4_beUsual_6 rfl ?_
  refine m_v1 (pc := 9) dX4_beUsual_9 lk_X4_28 ok_X4_add (rcK (ho).1 (by decide) rfl) rfl rfl (kc_X4_add (m := 0) ho (by rw [up_s]; rfl) (by decide) (kt_s ?_))
  refine s_pop (pc := 12) dX4_beUsual_12 rfl ?_
  refine s_aload_n (pc := 13) (i := 0) dX4_beUsual_13 rfl rfl ?_
  refine m_si (pc := 14) (v := 1001) dX4_beUsual_14 rfl ?_
  refine m_v1 (pc := 17) dX4_beUsual_17 lk_X4_28 ok_X4_add (rcK (ho).1 (by decide) rfl) rfl rfl (kc_X4_add (m := 1) ho up_s (by decide) (kt_s ?_))
  refine s_pop (pc := 20) dX4_beUsual_20 rfl ?_
  refine s_aload_n (pc := 21) (i := 0) dX4_beUsual_21 rfl rfl ?_
  refine m_si (pc := 22) (v := 2045) dX4_beUsual_22 rfl ?_
  refine m_v1 (pc := 25) dX4_beUsual_25 lk_X4_28 ok_X4_add (rcK (ho).1 (by decide) rfl) rfl rfl (kc_X4_add (m := 2) ho up_s (by decide) (kt_s ?_))
  refine s_pop (pc := 28) dX4_beUsual_28 rfl ?_
  refine s_aload_n (pc := 29) (i := 0) dX4_beUsual_29 rfl rfl ?_
  refine m_si (pc := 30) (v := 1002) dX4_beUsual_30 rfl ?_
  refine m_v1 (pc := 33) dX4_beUsual_33 lk_X4_28 ok_X4_add (rcK (ho).1 (by decide) rfl) rfl rfl (kc_X4_add (m := 3) ho up_s (by decide) (kt_s ?_))
  refine s_pop (pc := 36) dX4_beUsual_36 rfl ?_
  refine s_aload_n (pc := 37) (i := 0) dX4_beUsual_37 rfl rfl ?_
  refine m_si (pc := 38) (v := 2043) dX4_beUsual_38 rfl ?_
  refine m_v1 (pc := 41) dX4_beUsual_41 lk_X4_28 ok_X4_add (rcK (ho).1 (by decide) rfl) rfl rfl (kc_X4_add (m := 4) ho up_s (by decide) (kt_s ?_))
  refine s_pop (pc := 44) dX4_beUsual_44 rfl ?_
  refine s_return (pc := 45) dX4_beUsual_45 rfl ?_
  exact hq
theorem kcps_lp {x y nx ny m : Nat} (hx : isAL 559 64 nx x) (hy : isAL 559 64 ny y) (hne : x ≠ y) (h1 : m ≤ nx) (h2 : m ≤ ny) (hm : nx ≤ 10000 ∧ ny ≤ 10000) (hq : Q (.inl none) (Kz (cpI I x y m) J R0 559 w)) : ∀ f i, i ≤ m → m - i = f → Rn g (d + 0) mX12_copies 3 [.ref 534, .ref x, .ref y, .int (nI m), .int (nI i)] [] [] (Kz (cpI I x y i) J R0 559 w) Q := by
  intro f
  induction f with
  | zero =>
    intro i hi hf
    have e : i = m := by omega
    subst e
    refine s_iload (pc := 3) (i := 4) dX12_copies_3 rfl ?_
    refine s_iload_n (pc := 5) (i := 3) dX12_copies_5 rfl rfl ?_
    refine s_icge (pc := 6) (tgt := 23) dX12_copies_6 rfl (fun h6 => ?_) (fun h6 => absurd (nI_le (by omega) (by omega)) h6)
    refine s_return (pc := 23) dX12_copies_23 rfl ?_
    exact hq
  | succ f ih =>
    intro i hi hf
    refine s_iload (pc := 3) (i := 4) dX12_copies_3 rfl ?_
    refine s_iload_n (pc := 5) (i := 3) dX12_copies_5 rfl rfl ?_
    refine s_icge (pc := 6) (tgt := 23) dX12_copies_6 rfl (fun h6 => absurd h6 (nI_ge (by omega) (by omega))) (fun h6 => ?_)
    refine s_aload_n (pc := 9) (i := 2) dX12_copies_9 rfl rfl ?_
    refine s_iload (pc := 10) (i := 4) dX12_copies_10 rfl ?_
    refine s_aload_n (pc := 12) (i := 1) dX12_copies_12 rfl rfl ?_
    refine s_iload (pc := 13) (i := 4) dX12_copies_13 rfl ?_
    refine k_ia (pc := 15) dX12_copies_15 hx (vp_in_nI (by omega) (by omega)) ?_
    refine k_is (pc := 16) dX12_copies_16 hy (vp_in_nI (by omega) (by omega)) ?_
    rw [nI_clamp (by omega), cp_1 hne]
    refine m_inc (pc := 17) (v := 1) dX12_copies_17 rfl rfl ?_
    dsimp only [List.set, List.filter]
    rw [nI_1]
    refine s_goto (pc := 20) (tgt := 3) dX12_copies_20 rfl ?_
    exact ih (i + 1) (by omega) (by omega)
theorem kc_X12_copies {x y nx ny m : Nat} {mi : Int32} (hmi : mi = nI m) (hx : isAL 559 64 nx x) (hy : isAL 559 64 ny y) (hne : x ≠ y) (h1 : m ≤ nx) (h2 : m ≤ ny) (hm : nx ≤ 10000 ∧ ny ≤ 10000) (hq : Q (.inl none) (Kz (cpI I x y m) J R0 559 w)) : Cn g (d + 0) mX12_copies [.ref 534, .ref x, .ref y, .int mi] (Kz I J R0 559 w) Q := by
  subst hmi
  show Rn g (d + 0) mX12_copies 0 [.ref 534, .ref x, .ref y, .int (nI m), .retAddr 0] [] [] (Kz I J R0 559 w) Q
  refine m_ic (pc := 0) (v := 0) dX12_copies_0 rfl ?_
  refine s_istore (pc := 1) (i := 4) dX12_copies_1 (Nat.le_of_ble_eq_true rfl) ?_
  dsimp only [List.set, List.filter]
  have h := kcps_lp (g := g) (d := d) hx hy hne h1 h2 hm hq m 0 (by omega) (by omega)
  rw [cp_0] at h
  exact h
theorem kset_l2 {I0 : Nat → Nat → Int32} (hq : Q (.inl none) (Kz (nwI I0 126) J R0 559 w)) : ∀ f i, i ≤ 126 → 126 - i = f → Rn g (d + 1) mX12_sets 100 [.ref 534, .int (nI i)] [] [] (Kz (nwI I0 i) J R0 559 w) Q := by
  have e1 : (126 : Int32) = nI 126 := rfl
  have e2 : (84 : Int32) = nI 84 := rfl
  intro f
  induction f with
  | zero =>
    intro i hi hf
    have e : i = 126 := by omega
    subst e
    refine s_iload_n (pc := 100) (i := 1) dX12_sets_100 rfl rfl ?_
    refine m_bi (pc := 101) (v := 126) dX12_sets_101 rfl ?_
    refine s_icge (pc := 103) (tgt := 129) dX12_sets_103 rfl (fun h103 => ?_) (fun h103 => absurd (nI_le (a := 126) (b := 126) (by omega) (by omega)) h103)
    refine s_return (pc := 129) dX12_sets_129 rfl ?_
    exact hq
  | succ f ih =>
    intro i hi hf
    refine s_iload_n (pc := 100) (i := 1) dX12_sets_100 rfl rfl ?_
    refine m_bi (pc := 101) (v := 126) dX12_sets_101 rfl ?_
    refine s_icge (pc := 103) (tgt := 129) dX12_sets_103 rfl (fun h103 => absurd h103 (nI_ge (a := i) (b := 126) (by omega) (by omega))) (fun h103 => ?_)
    refine s_aload_n (pc := 106) (i := 0) dX12_sets_106 rfl rfl ?_
    refine k_gr (pc := 107) dX12_sets_107 ff_X12_59 rfl (kO (L := 559) o_534 (by omega)) r_534_36 ?_
    refine s_iload_n (pc := 110) (i := 1) dX12_sets_110 rfl rfl ?_
    refine s_iload_n (pc := 111) (i := 1) dX12_sets_111 rfl rfl ?_
    refine m_bi (pc := 112) (v := 84) dX12_sets_112 rfl ?_
    refine s_icge (pc := 114) (tgt := 121) dX12_sets_114 rfl (fun h114 => ?_) (fun h114 => ?_)
    · rw [e2, nI_leI (by omega) (by omega)] at h114
      refine m_ic (pc := 121) (v := 0) dX12_sets_121 rfl ?_
      refine k_is (pc := 122) dX12_sets_122 (kA (L := 559) a_549 (by omega)) (vp_in_nI (by omega) (by decide)) ?_
      rw [nI_clamp (by omega), nw_1 (by rw [if_neg (by omega)])]
      refine m_inc (pc := 123) (v := 1) dX12_sets_123 rfl rfl ?_
      dsimp only [List.set, List.filter]
      rw [nI_1]
      refine s_goto (pc := 126) (tgt := 100) dX12_sets_126 rfl ?_
      exact ih (i + 1) (by omega) (by omega)
    · rw [e2, nI_leI (by omega) (by omega)] at h114
      refine m_ic (pc := 117) (v := -1) dX12_sets_117 rfl ?_
      refine s_goto (pc := 118) (tgt := 122) dX12_sets_118 rfl ?_
      refine k_is (pc := 122) dX12_sets_122 (kA (L := 559) a_549 (by omega)) (vp_in_nI (by omega) (by decide)) ?_
      rw [nI_clamp (by omega), nw_1 (by rw [if_pos (by omega)])]
      refine m_inc (pc := 123) (v := 1) dX12_sets_123 rfl rfl ?_
      dsimp only [List.set, List.filter]
      rw [nI_1]
      refine s_goto (pc := 126) (tgt := 100) dX12_sets_126 rfl ?_
      exact ih (i + 1) (by omega) (by omega)
theorem kset_l1 {I0 : Nat → Nat → Int32} (hq : Q (.inl none) (Kz (nwI (flI I0 553 7 (-1)) 126) J R0 559 w)) : ∀ f i, i ≤ 7 → 7 - i = f → Rn g (d + 1) mX12_sets 79 [.ref 534, .int (nI i)] [] [] (Kz (flI I0 553 i (-1)) J R0 559 w) Q := by
  have e1 : (7 : Int32) = nI 7 := rfl
  intro f
  induction f with
  | zero =>
    intro i hi hf
    have e : i = 7 := by omega
    subst e
    refine s_iload_n (pc := 79) (i := 1) dX12_sets_79 rfl rfl ?_
    refine m_bi (pc := 80) (v := 7) dX12_sets_80 rfl ?_
    refine s_icge (pc := 82) (tgt := 98) dX12_sets_82 rfl (fun h82 => ?_) (fun h82 => absurd (nI_le (a := 7) (b := 7) (by omega) (by omega)) h82)
    refine m_ic (pc := 98) (v := 0) dX12_sets_98 rfl ?_
    refine s_istore_n (pc := 99) (i := 1) dX12_sets_99 rfl (Nat.le_of_ble_eq_true rfl) ?_
    dsimp only [List.set, List.filter]
    have h := kset_l2 (g := g) (d := d) hq 126 0 (by omega) (by omega)
    rw [nw_0] at h
    exact h
  | succ f ih =>
    intro i hi hf
    refine s_iload_n (pc := 79) (i := 1) dX12_sets_79 rfl rfl ?_
    refine m_bi (pc := 80) (v := 7) dX12_sets_80 rfl ?_
    refine s_icge (pc := 82) (tgt := 98) dX12_sets_82 rfl (fun h82 => absurd h82 (nI_ge (a := i) (b := 7) (by omega) (by omega))) (fun h82 => ?_)
    refine s_aload_n (pc := 85) (i := 0) dX12_sets_85 rfl rfl ?_
    refine k_gr (pc := 86) dX12_sets_86 ff_X12_71 rfl (kO (L := 559) o_534 (by omega)) r_534_40 ?_
    refine s_iload_n (pc := 89) (i := 1) dX12_sets_89 rfl rfl ?_
    refine m_ic (pc := 90) (v := -1) dX12_sets_90 rfl ?_
    refine k_is (pc := 91) dX12_sets_91 (kA (L := 559) a_553 (by omega)) (vp_in_nI (by omega) (by decide)) ?_
    rw [nI_clamp (by omega), fl_1]
    refine m_inc (pc := 92) (v := 1) dX12_sets_92 rfl rfl ?_
    dsimp only [List.set, List.filter]
    rw [nI_1]
    refine s_goto (pc := 95) (tgt := 79) dX12_sets_95 rfl ?_
    exact ih (i + 1) (by omega) (by omega)
theorem kc_X12_sets (hq : Q (.inl none) (Kz (stM I) J R0 559 w)) : Cn g (d + 1) mX12_sets [.ref 534] (Kz I J R0 559 w) Q := by
  show Rn g (d + 1) mX12_sets 0 [.ref 534, .retAddr 0] [] [] (Kz I J R0 559 w) Q
  refine s_aload_n (pc := 0) (i := 0) dX12_sets_0 rfl rfl ?_
  refine s_aload_n (pc := 1) (i := 0) dX12_sets_1 rfl rfl ?_
  refine k_gi (pc := 2) dX12_sets_2 ff_X12_145 rfl (kO (L := 559) o_534 (by omega)) ?_
  refine k_pi (pc := 5) dX12_sets_5 ff_X12_154 rfl rfl (kO (L := 559) o_534 (by omega)) ?_
  refine s_aload_n (pc := 8) (i := 0) dX12_sets_8 rfl rfl ?_
  refine s_aload_n (pc := 9) (i := 0) dX12_sets_9 rfl rfl ?_
  refine k_gi (pc := 10) dX12_sets_10 ff_X12_148 rfl (kO (L := 559) o_534 (by omega)) ?_
  refine k_pi (pc := 13) dX12_sets_13 ff_X12_157 rfl rfl (kO (L := 559) o_534 (by omega)) ?_
  refine s_aload_n (pc := 16) (i := 0) dX12_sets_16 rfl rfl ?_
  refine s_aload_n (pc := 17) (i := 0) dX12_sets_17 rfl rfl ?_
  refine k_gi (pc := 18) dX12_sets_18 ff_X12_151 rfl (kO (L := 559) o_534 (by omega)) ?_
  refine k_pi (pc := 21) dX12_sets_21 ff_X12_160 rfl rfl (kO (L := 559) o_534 (by omega)) ?_
  refine s_aload_n (pc := 24) (i := 0) dX12_sets_24 rfl rfl ?_
  refine s_aload_n (pc := 25) (i := 0) dX12_sets_25 rfl rfl ?_
  refine k_gr (pc := 26) dX12_sets_26 ff_X12_23 rfl (kO (L := 559) o_534 (by omega)) r_534_10 ?_
  refine s_aload_n (pc := 29) (i := 0) dX12_sets_29 rfl rfl ?_
  refine k_gr (pc := 30) dX12_sets_30 ff_X12_29 rfl (kO (L := 559) o_534 (by omega)) r_534_12 ?_
  refine m_bi (pc := 33) (v := 14) dX12_sets_33 rfl ?_
  refine m_v3 (pc := 35) dX12_sets_35 lk_X12_163 ok_X12_copies (rcK (kO (L := 559) o_534 (by omega)) (by decide) rfl) rfl rfl (kc_X12_copies (m := 14) rfl (kA (L := 559) a_537 (by omega)) (kA (L := 559) a_539 (by omega)) (by decide) (by decide) (by decide) (by decide) (kt_v ?_))
  refine s_aload_n (pc := 38) (i := 0) dX12_sets_38 rfl rfl ?_
  refine s_aload_n (pc := 39) (i := 0) dX12_sets_39 rfl rfl ?_
  refine k_gr (pc := 40) dX12_sets_40 ff_X12_26 rfl (kO (L := 559) o_534 (by omega)) r_534_11 ?_
  refine s_aload_n (pc := 43) (i := 0) dX12_sets_43 rfl rfl ?_
  refine k_gr (pc := 44) dX12_sets_44 ff_X12_32 rfl (kO (L := 559) o_534 (by omega)) r_534_13 ?_
  refine m_bi (pc := 47) (v := 24) dX12_sets_47 rfl ?_
  refine m_v3 (pc := 49) dX12_sets_49 lk_X12_163 ok_X12_copies (rcK (kO (L := 559) o_534 (by omega)) (by decide) rfl) rfl rfl (kc_X12_copies (m := 24) rfl (kA (L := 559) a_538 (by omega)) (kA (L := 559) a_540 (by omega)) (by decide) (by decide) (by decide) (by decide) (kt_v ?_))
  refine s_aload_n (pc := 52) (i := 0) dX12_sets_52 rfl rfl ?_
  refine m_ic (pc := 53) (v := 0) dX12_sets_53 rfl ?_
  refine k_pi (pc := 54) dX12_sets_54 ff_X12_167 rfl rfl (kO (L := 559) o_534 (by omega)) ?_
  refine s_aload_n (pc := 57) (i := 0) dX12_sets_57 rfl rfl ?_
  refine m_ic (pc := 58) (v := 0) dX12_sets_58 rfl ?_
  refine k_pi (pc := 59) dX12_sets_59 ff_X12_170 rfl rfl (kO (L := 559) o_534 (by omega)) ?_
  refine s_aload_n (pc := 62) (i := 0) dX12_sets_62 rfl rfl ?_
  refine m_ic (pc := 63) (v := 0) dX12_sets_63 rfl ?_
  refine k_pi (pc := 64) dX12_sets_64 ff_X12_173 rfl rfl (kO (L := 559) o_534 (by omega)) ?_
  refine s_aload_n (pc := 67) (i := 0) dX12_sets_67 rfl rfl ?_
  refine m_ic (pc := 68) (v := 0) dX12_sets_68 rfl ?_
  refine k_pi (pc := 69) dX12_sets_69 ff_X12_176 rfl rfl (kO (L := 559) o_534 (by omega)) ?_
  refine s_aload_n (pc := 72) (i := 0) dX12_sets_72 rfl rfl ?_
  refine m_ic (pc := 73) (v := 0) dX12_sets_73 rfl ?_
  refine k_pi (pc := 74) dX12_sets_74 ff_X12_179 rfl rfl (kO (L := 559) o_534 (by omega)) ?_
  refine m_ic (pc := 77) (v := 0) dX12_sets_77 rfl ?_
  refine s_istore_n (pc := 78) (i := 1) dX12_sets_78 rfl (Nat.le_of_ble_eq_true rfl) ?_
  dsimp only [List.set, List.filter]
  have h := kset_l1 (g := g) (d := d) (I0 := up (up (up (up (up (cpI (cpI (up (up (up I 534 17 (I 534 14)) 534 18 (I 534 15)) 534 19 (I 534 16)) 537 539 14) 538 540 24) 534 26 0) 534 41 0) 534 31 0) 534 50 0) 534 32 0) hq 7 0 (by omega) (by omega)
  rw [fl_0] at h
  exact h
theorem kc_X12_clears (hq : Q (.inl none) (Kz (up (up (up I 534 14 0) 534 15 0) 534 16 20) J R0 559 w)) : Cn g (d + 0) mX12_clears [.ref 534] (Kz I J R0 559 w) Q := by
  show Rn g (d + 0) mX12_clears 0 [.ref 534] [] [] (Kz I J R0 559 w) Q
  refine s_aload_n (pc := 0) (i := 0) dX12_clears_0 rfl rfl ?_
  refine m_ic (pc := 1) (v := 0) dX12_clears_1 rfl ?_
  refine k_pi (pc := 2) dX12_clears_2 ff_X12_145 rfl rfl (kO (L := 559) o_534 (by omega)) ?_
  refine s_aload_n (pc := 5) (i := 0) dX12_clears_5 rfl rfl ?_
  refine m_ic (pc := 6) (v := 0) dX12_clears_6 rfl ?_
  refine k_pi (pc := 7) dX12_clears_7 ff_X12_148 rfl rfl (kO (L := 559) o_534 (by omega)) ?_
  refine s_aload_n (pc := 10) (i := 0) dX12_clears_10 rfl rfl ?_
  refine m_bi (pc := 11) (v := 20) dX12_clears_11 rfl ?_
  refine k_pi (pc := 13) dX12_clears_13 ff_X12_151 rfl rfl (kO (L := 559) o_534 (by omega)) ?_
  refine s_return (pc := 16) dX12_clears_16 rfl ?_
  exact hq
end S
