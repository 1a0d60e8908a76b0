section S
variable {g : aG} {d : Nat} {I : Nat → Nat → Int32} {J : Nat → Nat → Int64} {n w : Nat} {Q : aO → aS → Prop}
variable {t : Nat → Nat} {N a wf wt : Nat} {fk fp : Int32} {σ : aS}
/-- a line of a book, or none -/
def ob : Option Nat → Int32
  | none => -1
  | some v => nI v
def os (B : Nat → Option Nat) (b v : Nat) : Nat → Option Nat := fun x => if x = b then some v else B x
abbrev bT := Sum (Nat × Nat) ((Nat → Option Nat) × Nat)
/-- the text of a book -/
def rBk (t : Nat → Nat) (N nb : Nat) : Nat → Nat → (Nat → Option Nat) → Nat → bT
  | 0, _, B, k => .inr (B, k)
  | f + 1, p, B, k => if N ≤ p then .inr (B, k) else match nR t N p 0 nb with
    | .inl e => .inl e
    | .inr (b, q) => if (B b).isSome = true then .inl (2, p) else match nR t N q 0 1000 with
      | .inl e => .inl e
      | .inr (v, z) => match sR t N z 59 with
        | .inl e => .inl e
        | .inr y => rBk t N nb f y (os B b v) (k + 1)
def bOk (B : Nat → Option Nat) : Prop := ∀ b v, B b = some v → v < 1000
def Bc (I : Nat → Nat → Int32) (o : Nat) (B : Nat → Option Nat) (k : Nat) : Prop := I o 1 = nI k ∧ ∀ b, b < 7 → I (o + 1) b = ob (B b)
theorem ob_no {B : Nat → Option Nat} (h : bOk B) {b : Nat} : ob (B b) = -1 ↔ (B b).isSome = false := by
  cases e : B b with
  | none => simp [ob]
  | some v => simp only [ob, Option.isSome_some]; exact ⟨fun z => absurd z (nI_m1 (by have := h b v e; omega)), fun z => by cases z⟩
theorem bOk_s {B : Nat → Option Nat} (h : bOk B) {b v : Nat} (hv : v < 1000) : bOk (os B b v) := fun x y e => by
  unfold os at e
  split at e
  · injection e with e; omega
  · exact h x y e
theorem Bc_s {B : Nat → Option Nat} {b v k : Nat} (h : Bc I 24 B k) : Bc (up (up I 25 b (nI v)) 24 1 (nI (k + 1))) 24 (os B b v) (k + 1) := by
  refine ⟨up_s, fun x hx => ?_⟩
  rw [up_a (by decide)]
  unfold os
  by_cases e : x = b
  · subst e; rw [up_s, if_pos rfl]; rfl
  · rw [up_k e, if_neg e]; exact h.2 x hx
theorem c_X0_hasLine_d {B : Nat → Option Nat} {b k : Nat} {bi : Int32} (hbi : bi = nI b) (hB : Bc I 24 B k) (hk : bOk B) (hb : b < 7) (ht : (B b).isSome = true → Q (.inl (some (.int 1))) (Z I J n w)) (hf : (B b).isSome = false → Q (.inl (some (.int 0))) (Z I J n w)) : Cn g (d + 0) mX0_hasLine [.ref 24, .int bi] (Z I J n w) Q := by
  subst hbi
  show Rn g (d + 0) mX0_hasLine 0 [.ref 24, .int (nI b)] [] [] (Z I J n w) Q
  refine s_aload_n (pc := 0) (i := 0) dX0_hasLine_0 rfl rfl ?_
  refine m_gr (pc := 1) dX0_hasLine_1 ff_X0_9 rfl o_24 r_24_0 ?_
  refine s_iload_n (pc := 4) (i := 1) dX0_hasLine_4 rfl rfl ?_
  refine m_ia (pc := 5) dX0_hasLine_5 a_25 (vp_in_nI (by omega) (by decide)) ?_
  refine m_nm (v' := ob (B b)) (by rw [nI_clamp (by omega)]; exact hB.2 b hb) ?_
  refine m_ic (pc := 6) (v := -1) dX0_hasLine_6 rfl ?_
  refine s_iceq (pc := 7) (tgt := 14) dX0_hasLine_7 rfl (fun h7 => ?_) (fun h7 => ?_)
  · have z := (ob_no hk).mp h7
    refine m_ic (pc := 14) (v := 0) dX0_hasLine_14 rfl ?_
    refine s_ireturn (pc := 15) dX0_hasLine_15 rfl rfl ?_
    exact hf z
  · have z : (B b).isSome = true := ts_nf (fun y => h7 ((ob_no hk).mpr y))
    refine m_ic (pc := 10) (v := 1) dX0_hasLine_10 rfl ?_
    refine s_goto (pc := 11) (tgt := 15) dX0_hasLine_11 rfl ?_
    refine s_ireturn (pc := 15) dX0_hasLine_15 rfl rfl ?_
    exact ht z
theorem c_X0_hasLine {B : Nat → Option Nat} {b k : Nat} {bi : Int32} (hbi : bi = nI b) (hB : Bc I 22 B k) (hk : bOk B) (hb : b < 7) (ht : (B b).isSome = true → Q (.inl (some (.int 1))) (Z I J n w)) (hf : (B b).isSome = false → Q (.inl (some (.int 0))) (Z I J n w)) : Cn g (d + 0) mX0_hasLine [.ref 22, .int bi] (Z I J n w) Q := by
  subst hbi
  show Rn g (d + 0) mX0_hasLine 0 [.ref 22, .int (nI b)] [] [] (Z I J n w) Q
  refine s_aload_n (pc := 0) (i := 0) dX0_hasLine_0 rfl rfl ?_
  refine m_gr (pc := 1) dX0_hasLine_1 ff_X0_9 rfl o_22 r_22_0 ?_
  refine s_iload_n (pc := 4) (i := 1) dX0_hasLine_4 rfl rfl ?_
  refine m_ia (pc := 5) dX0_hasLine_5 a_23 (vp_in_nI (by omega) (by decide)) ?_
  refine m_nm (v' := ob (B b)) (by rw [nI_clamp (by omega)]; exact hB.2 b hb) ?_
  refine m_ic (pc := 6) (v := -1) dX0_hasLine_6 rfl ?_
  refine s_iceq (pc := 7) (tgt := 14) dX0_hasLine_7 rfl (fun h7 => ?_) (fun h7 => ?_)
  · have z := (ob_no hk).mp h7
    refine m_ic (pc := 14) (v := 0) dX0_hasLine_14 rfl ?_
    refine s_ireturn (pc := 15) dX0_hasLine_15 rfl rfl ?_
    exact hf z
  · have z : (B b).isSome = true := ts_nf (fun y => h7 ((ob_no hk).mpr y))
    refine m_ic (pc := 10) (v := 1) dX0_hasLine_10 rfl ?_
    refine s_goto (pc := 11) (tgt := 15) dX0_hasLine_11 rfl ?_
    refine s_ireturn (pc := 15) dX0_hasLine_15 rfl rfl ?_
    exact ht z
theorem Bc_p {B : Nat → Option Nat} {o k : Nat} (ho : 3 ≤ o) (h : Bc I o B k) : Bc (tp I a wf wt fk fp) o B k := ⟨by rw [tp_o (by omega)]; exact h.1, fun b hb => by rw [tp_o (by omega)]; exact h.2 b hb⟩
/-- one line, its sign aside -/
def rLn (t : Nat → Nat) (N nb p : Nat) (B : Nat → Option Nat) : Sum (Nat × Nat) (Nat × Nat × Nat) := match nR t N p 0 nb with
  | .inl e => .inl e
  | .inr (b, q) => if (B b).isSome = true then .inl (2, p) else match nR t N q 0 1000 with
    | .inl e => .inl e
    | .inr (v, z) => .inr (b, v, z)
theorem c_X0_readLine {B : Nat → Option Nat} {nb k : Nat} (hx : tx I t N) (ha : a ≤ N) (hnb : nb ≤ 7) (hB : Bc I 24 B k) (hk : bOk B) (hk6 : k ≤ 60) (hb : ∀ e a' wf' wt', rLn t N nb a B = .inl e → Q (.inl (some (.int 0))) (Z (tp I a' wf' wt' (nI e.1) (nI e.2)) J n w)) (hg : ∀ b v z I', rLn t N nb a B = .inr (b, v, z) → z ≤ N → a < z → fC I I' → Bc I' 24 (os B b v) (k + 1) → bOk (os B b v) → Q (.inl (some (.int 1))) (Z (tp I' z wf wt fk fp) J n w)) : Cn g (d + 2) mX0_readLine [.ref 24, .ref 2, .int (nI nb)] (Z (tp I a wf wt fk fp) J n w) Q := by
  have hN := hx.1
  show Rn g (d + 2) mX0_readLine 0 [.ref 24, .ref 2, .int (nI nb), .retAddr 0, .retAddr 0, .retAddr 0] [] [] (Z (tp I a wf wt fk fp) J n w) Q
  refine s_aload_n (pc := 0) (i := 1) dX0_readLine_0 rfl rfl ?_
  refine m_gi (pc := 1) dX0_readLine_1 ff_X0_48 rfl o_2 ?_
  refine m_nm (v' := nI a) rfl ?_
  refine s_istore_n (pc := 4) (i := 3) dX0_readLine_4 rfl (Nat.le_of_ble_eq_true rfl) ?_
  dsimp only [List.set, List.filter]
  refine s_aload_n (pc := 5) (i := 1) dX0_readLine_5 rfl rfl ?_
  refine m_ic (pc := 6) (v := 0) dX0_readLine_6 rfl ?_
  refine s_iload_n (pc := 7) (i := 2) dX0_readLine_7 rfl rfl ?_
  refine m_ic (pc := 8) (v := 1) dX0_readLine_8 rfl ?_
  refine s_isub (pc := 9) dX0_readLine_9 ?_
  refine m_v2 (pc := 10) dX0_readLine_10 lk_X0_51 ok_X10_needNumber (rcO o_2 (by decide) rfl) rfl rfl (c_nn hx ha (lo1 := 0) (hi1 := nb) rfl rfl (by omega) (fun e a1 q1 => kt_s ?_) (fun b p1 q1 v1 v2 v3 => kt_s ?_))
  · refine s_istore (pc := 13) (i := 4) dX0_readLine_13 (Nat.le_of_ble_eq_true rfl) ?_
    dsimp only [List.set, List.filter]
    refine s_iload (pc := 15) (i := 4) dX0_readLine_15 rfl ?_
    refine m_ic (pc := 17) (v := -1) dX0_readLine_17 rfl ?_
    refine s_icne (pc := 18) (tgt := 23) dX0_readLine_18 rfl (fun h18 => absurd h18 (by decide)) (fun h18 => ?_)
    refine m_ic (pc := 21) (v := 0) dX0_readLine_21 rfl ?_
    refine s_ireturn (pc := 22) dX0_readLine_22 rfl rfl ?_
    exact hb e a1 _ _ (by unfold rLn; rw [q1])
  · refine s_istore (pc := 13) (i := 4) dX0_readLine_13 (Nat.le_of_ble_eq_true rfl) ?_
    dsimp only [List.set, List.filter]
    refine s_iload (pc := 15) (i := 4) dX0_readLine_15 rfl ?_
    refine m_ic (pc := 17) (v := -1) dX0_readLine_17 rfl ?_
    refine s_icne (pc := 18) (tgt := 23) dX0_readLine_18 rfl (fun h18 => ?_) (fun h18 => absurd h18 (nI_m1 (by omega)))
    refine s_aload_n (pc := 23) (i := 0) dX0_readLine_23 rfl rfl ?_
    refine s_iload (pc := 24) (i := 4) dX0_readLine_24 rfl ?_
    refine m_v1 (pc := 26) dX0_readLine_26 lk_X0_55 ok_X0_hasLine (rcO o_24 (by decide) rfl) rfl rfl (c_X0_hasLine_d rfl (Bc_p (by decide) hB) hk (by omega) (fun z => kt_s ?_) (fun z => kt_s ?_))
    · refine s_ifeq (pc := 29) (tgt := 39) dX0_readLine_29 rfl (fun h29 => absurd h29 (by decide)) (fun h29 => ?_)
      refine s_aload_n (pc := 32) (i := 1) dX0_readLine_32 rfl rfl ?_
      refine m_ic (pc := 33) (v := 2) dX0_readLine_33 rfl ?_
      refine s_iload_n (pc := 34) (i := 3) dX0_readLine_34 rfl rfl ?_
      refine m_v2 (pc := 35) dX0_readLine_35 lk_X0_59 ok_X10_fail (rcO o_2 (by decide) rfl) rfl rfl (c_X10_fail (kt_s ?_))
      refine s_ireturn (pc := 38) dX0_readLine_38 rfl rfl ?_
      exact hb (2, a) _ _ _ (by unfold rLn; rw [q1]; simp only []; rw [if_pos z])
    · refine s_ifeq (pc := 29) (tgt := 39) dX0_readLine_29 rfl (fun h29 => ?_) (fun h29 => absurd h29 (by decide))
      refine s_aload_n (pc := 39) (i := 1) dX0_readLine_39 rfl rfl ?_
      refine m_ic (pc := 40) (v := 0) dX0_readLine_40 rfl ?_
      refine m_si (pc := 41) (v := 999) dX0_readLine_41 rfl ?_
      refine m_v2 (pc := 44) dX0_readLine_44 lk_X0_51 ok_X10_needNumber (rcO o_2 (by decide) rfl) rfl rfl (c_nn hx v3 (lo1 := 0) (hi1 := 1000) rfl rfl (by decide) (fun e a1 q2 => kt_s ?_) (fun v p2 q2 u1 u2 u3 => kt_s ?_))
      · refine s_istore (pc := 47) (i := 5) dX0_readLine_47 (Nat.le_of_ble_eq_true rfl) ?_
        dsimp only [List.set, List.filter]
        refine s_iload (pc := 49) (i := 5) dX0_readLine_49 rfl ?_
        refine m_ic (pc := 51) (v := -1) dX0_readLine_51 rfl ?_
        refine s_icne (pc := 52) (tgt := 57) dX0_readLine_52 rfl (fun h52 => absurd h52 (by decide)) (fun h52 => ?_)
        refine m_ic (pc := 55) (v := 0) dX0_readLine_55 rfl ?_
        refine s_ireturn (pc := 56) dX0_readLine_56 rfl rfl ?_
        exact hb e a1 _ _ (by unfold rLn; rw [q1]; simp only []; rw [if_neg (by rw [z]; decide), q2])
      · refine s_istore (pc := 47) (i := 5) dX0_readLine_47 (Nat.le_of_ble_eq_true rfl) ?_
        dsimp only [List.set, List.filter]
        refine s_iload (pc := 49) (i := 5) dX0_readLine_49 rfl ?_
        refine m_ic (pc := 51) (v := -1) dX0_readLine_51 rfl ?_
        refine s_icne (pc := 52) (tgt := 57) dX0_readLine_52 rfl (fun h52 => ?_) (fun h52 => absurd h52 (nI_m1 (by omega)))
        refine s_aload_n (pc := 57) (i := 0) dX0_readLine_57 rfl rfl ?_
        refine m_gr (pc := 58) dX0_readLine_58 ff_X0_9 rfl o_24 r_24_0 ?_
        refine s_iload (pc := 61) (i := 4) dX0_readLine_61 rfl ?_
        refine s_iload (pc := 63) (i := 5) dX0_readLine_63 rfl ?_
        refine m_is (pc := 65) dX0_readLine_65 a_25 (vp_in_nI (n := b) (by omega) (by decide)) ?_
        refine st_tp hx (by decide) (by decide) (fun I65 e65 hx => ?_)
        refine s_aload_n (pc := 66) (i := 0) dX0_readLine_66 rfl rfl ?_
        refine s_dup (pc := 67) dX0_readLine_67 rfl ?_
        refine m_gi (pc := 68) dX0_readLine_68 ff_X0_24 rfl o_24 ?_
        refine m_nm (v' := nI k) (by rw [tp_o (by decide), e65, up_a (by decide)]; exact hB.1) ?_
        refine m_ic (pc := 71) (v := 1) dX0_readLine_71 rfl ?_
        refine s_iadd (pc := 72) dX0_readLine_72 ?_
        refine m_nm (v' := nI (k + 1)) (nI_1 _) ?_
        refine m_pi (pc := 73) dX0_readLine_73 ff_X0_24 rfl rfl o_24 ?_
        refine st_tp hx (by decide) (by decide) (fun I73 e73 hx => ?_)
        refine m_ic (pc := 76) (v := 1) dX0_readLine_76 rfl ?_
        refine s_ireturn (pc := 77) dX0_readLine_77 rfl rfl ?_
        rw [nI_clamp (by omega)] at e65
        have g1 := nR_ge q1
        have g2 := nR_ge q2
        subst e73; subst e65
        exact hg b v p2 _ (by unfold rLn; rw [q1]; simp only []; rw [if_neg (by rw [z]; decide), q2]) u3 (by omega) (fC_u (fC_u fC_r (by decide)) (by decide)) (Bc_s hB) (bOk_s hk u2)
theorem rBk_1 {nb f p k : Nat} {B : Nat → Option Nat} (hp : ¬ N ≤ p) : rBk t N nb (f + 1) p B k = match rLn t N nb p B with
    | .inl e => .inl e
    | .inr (b, v, z) => match sR t N z 59 with
      | .inl e => .inl e
      | .inr y => rBk t N nb f y (os B b v) (k + 1) := by
  rw [rBk, if_neg hp]
  unfold rLn
  cases nR t N p 0 nb with
  | inl e => rfl
  | inr q =>
    obtain ⟨b, q⟩ := q
    dsimp only
    split
    · rfl
    · cases nR t N q 0 1000 with
      | inl e => rfl
      | inr q => rfl
theorem rb_lp {nb : Nat} (hnb : nb ≤ 7) : ∀ f i I a wf wt B, tx I t N → a ≤ N → N - a ≤ f → i + f = 60 → Bc I 24 B i → bOk B → (∀ e a' wf' wt' I', rBk t N nb f a B i = .inl e → fC I I' → Q (.inl (some (.int 0))) (Z (tp I' a' wf' wt' (nI e.1) (nI e.2)) J n w)) → (∀ B' k' a' wf' wt' I', rBk t N nb f a B i = .inr (B', k') → k' ≤ 60 → fC I I' → Bc I' 24 B' k' → bOk B' → Q (.inl (some (.int 1))) (Z (tp I' a' wf' wt' fk fp) J n w)) → Rn g (d + 3) mX0_readFrom 6 [.ref 24, .ref 2, .int (nI nb), .int (nI i)] [] [] (Z (tp I a wf wt fk fp) J n w) Q := by
  intro f
  induction f with
  | zero =>
    intro i I a wf wt B hx ha hf hi hB hk hb hg
    refine s_iload_n (pc := 6) (i := 3) dX0_readFrom_6 rfl rfl ?_
    refine m_bi (pc := 7) (v := 60) dX0_readFrom_7 rfl ?_
    refine s_icge (pc := 9) (tgt := 45) dX0_readFrom_9 rfl (fun h9 => ?_) (fun h9 => absurd (nI_le (a := 60) (b := i) (by omega) (by omega)) h9)
    refine m_ic (pc := 45) (v := 1) dX0_readFrom_45 rfl ?_
    refine s_ireturn (pc := 46) dX0_readFrom_46 rfl rfl ?_
    exact hg B i a wf wt I rfl (by omega) fC_r hB hk
  | succ f ih =>
    intro i I a wf wt B hx ha hf hi hB hk hb hg
    refine s_iload_n (pc := 6) (i := 3) dX0_readFrom_6 rfl rfl ?_
    refine m_bi (pc := 7) (v := 60) dX0_readFrom_7 rfl ?_
    refine s_icge (pc := 9) (tgt := 45) dX0_readFrom_9 rfl (fun h9 => absurd h9 (nI_ge (a := i) (b := 60) (by omega) (by omega))) (fun h9 => ?_)
    refine s_aload_n (pc := 12) (i := 1) dX0_readFrom_12 rfl rfl ?_
    refine m_v0 (pc := 13) dX0_readFrom_13 lk_X0_34 ok_X10_isAtEnd (rcO o_2 (by decide) rfl) rfl rfl (c_X10_isAtEnd hx ha (fun h => kt_s ?_) (fun h => kt_s ?_))
    · rw [rBk, if_pos (by omega)] at hg
      refine s_ifne (pc := 16) (tgt := 45) dX0_readFrom_16 rfl (fun h16 => ?_) (fun h16 => absurd h16 (by decide))
      refine m_ic (pc := 45) (v := 1) dX0_readFrom_45 rfl ?_
      refine s_ireturn (pc := 46) dX0_readFrom_46 rfl rfl ?_
      exact hg B i a wf wt I rfl (by omega) fC_r hB hk
    · rw [rBk_1 (by omega)] at hb hg
      refine s_ifne (pc := 16) (tgt := 45) dX0_readFrom_16 rfl (fun h16 => absurd h16 (by decide)) (fun h16 => ?_)
      refine s_aload_n (pc := 19) (i := 0) dX0_readFrom_19 rfl rfl ?_
      refine s_aload_n (pc := 20) (i := 1) dX0_readFrom_20 rfl rfl ?_
      refine s_iload_n (pc := 21) (i := 2) dX0_readFrom_21 rfl rfl ?_
      refine m_v2 (pc := 22) dX0_readFrom_22 lk_X0_40 ok_X0_readLine (rcO o_24 (by decide) rfl) rfl rfl (c_X0_readLine hx ha hnb hB hk (by omega) (fun e a1 wf1 wt1 q1 => kt_s ?_) (fun b v z I1 q1 q2 q3 q4 q5 q6 => kt_s ?_))
      · rw [q1] at hb
        refine s_ifeq (pc := 25) (tgt := 37) dX0_readFrom_25 rfl (fun h25 => ?_) (fun h25 => absurd h25 (by decide))
        refine m_ic (pc := 37) (v := 0) dX0_readFrom_37 rfl ?_
        refine s_ireturn (pc := 38) dX0_readFrom_38 rfl rfl ?_
        exact hb e a1 wf1 wt1 I rfl fC_r
      · rw [q1] at hb hg
        simp only [] at hb hg
        refine s_ifeq (pc := 25) (tgt := 37) dX0_readFrom_25 rfl (fun h25 => absurd h25 (by decide)) (fun h25 => ?_)
        refine s_aload_n (pc := 28) (i := 1) dX0_readFrom_28 rfl rfl ?_
        refine m_bi (pc := 29) (v := 59) dX0_readFrom_29 rfl ?_
        refine m_v1 (pc := 31) dX0_readFrom_31 lk_X0_44 ok_X10_needSign (rcO o_2 (by decide) rfl) rfl rfl (c_ns (c := 59) (tx_f hx q4) q2 (by decide) rfl (fun y s1 s2 s3 => kt_s ?_) (fun e s1 => kt_s ?_))
        · rw [s1] at hb hg
          simp only [] at hb hg
          refine s_ifne (pc := 34) (tgt := 39) dX0_readFrom_34 rfl (fun h34 => ?_) (fun h34 => absurd h34 (by decide))
          refine m_inc (pc := 39) (v := 1) dX0_readFrom_39 rfl rfl ?_
          dsimp only [List.set, List.filter]
          rw [nI_1]
          refine s_goto (pc := 42) (tgt := 6) dX0_readFrom_42 rfl ?_
          exact ih (i + 1) I1 y wf wt (os B b v) (tx_f hx q4) s2 (by omega) (by omega) q5 q6 (fun e a' wf' wt' I' z1 z2 => hb e a' wf' wt' I' z1 (fC_t q4 z2)) (fun B' k' a' wf' wt' I' z1 z2 z3 z4 z5 => hg B' k' a' wf' wt' I' z1 z2 (fC_t q4 z3) z4 z5)
        · rw [s1] at hb
          refine s_ifne (pc := 34) (tgt := 39) dX0_readFrom_34 rfl (fun h34 => absurd h34 (by decide)) (fun h34 => ?_)
          refine m_ic (pc := 37) (v := 0) dX0_readFrom_37 rfl ?_
          refine s_ireturn (pc := 38) dX0_readFrom_38 rfl rfl ?_
          exact hb e _ _ _ I1 rfl q4
theorem Bc_0 : Bc (up (flI I 25 7 (-1)) 24 1 0) 24 (fun _ => none) 0 := ⟨rfl, fun b hb => by simp [up, flI, hb, ob]⟩
theorem bOk_0 : bOk (fun _ => none) := fun b v h => by cases h
theorem tp_fl {x m : Nat} {v : Int32} (h : x ≠ 2) : flI (tp I a wf wt fk fp) x m v = tp (flI I x m v) a wf wt fk fp := by
  funext y j; unfold flI tp; dsimp only
  by_cases e : y = x ∧ j < m
  · rw [if_pos e, if_pos e, if_neg (by omega), if_neg (by omega), if_neg (by omega), if_neg (by omega), if_neg (by omega)]
  · rw [if_neg e, if_neg e]
theorem fC_fl {x m : Nat} {v : Int32} (hx : ¬ (x < 9 ∨ (13 < x ∧ x < 18) ∨ (21 < x ∧ x < 24) ∨ 30 < x)) : fC I (flI I x m v) := fun y j q => by unfold flI; rw [if_neg (by rintro ⟨e, _⟩; subst e; exact hx q)]
theorem c_X0_readFrom {nb : Nat} (hnb : nb ≤ 7) (hx : tx I t N) (ha : a ≤ N) (hN6 : N ≤ 60) (hb : ∀ e a' wf' wt' I', rBk t N nb 60 a (fun _ => none) 0 = .inl e → fC I I' → Q (.inl (some (.int 0))) (Z (tp I' a' wf' wt' (nI e.1) (nI e.2)) J n w)) (hg : ∀ B' k' a' wf' wt' I', rBk t N nb 60 a (fun _ => none) 0 = .inr (B', k') → k' ≤ 60 → fC I I' → Bc I' 24 B' k' → bOk B' → Q (.inl (some (.int 1))) (Z (tp I' a' wf' wt' fk fp) J n w)) : Cn g (d + 3) mX0_readFrom [.ref 24, .ref 2, .int (nI nb)] (Z (tp I a wf wt fk fp) J n w) Q := by
  show Rn g (d + 3) mX0_readFrom 0 [.ref 24, .ref 2, .int (nI nb), .retAddr 0] [] [] (Z (tp I a wf wt fk fp) J n w) Q
  refine s_aload_n (pc := 0) (i := 0) dX0_readFrom_0 rfl rfl ?_
  refine m_v0 (pc := 1) dX0_readFrom_1 lk_X0_15 ok_X0_clear (rcO o_24 (by decide) rfl) rfl rfl (c_X0_clear_d (kt_v ?_))
  rw [tp_fl (by decide), tp_up (by decide)]
  have f0 : fC I (up (flI I 25 7 (-1)) 24 1 0) := fC_u (fC_fl (by decide)) (by decide)
  refine m_ic (pc := 4) (v := 0) dX0_readFrom_4 rfl ?_
  refine s_istore_n (pc := 5) (i := 3) dX0_readFrom_5 rfl (Nat.le_of_ble_eq_true rfl) ?_
  dsimp only [List.set, List.filter]
  exact rb_lp hnb 60 0 _ a wf wt _ (tx_f hx f0) ha (by omega) rfl Bc_0 bOk_0 (fun e a' wf' wt' I' z1 z2 => hb e a' wf' wt' I' z1 (fC_t f0 z2)) (fun B' k' a' wf' wt' I' z1 z2 z3 z4 z5 => hg B' k' a' wf' wt' I' z1 z2 (fC_t f0 z3) z4 z5)
theorem c_X0_copyFrom (hq : Q (.inl none) (Z (up (cpI I 25 23 7) 22 1 (I 24 1)) J n w)) : Cn g (d + 1) mX0_copyFrom [.ref 22, .ref 24] (Z I J n w) Q := by
  show Rn g (d + 1) mX0_copyFrom 0 [.ref 22, .ref 24] [] [] (Z I J n w) Q
  refine s_aload_n (pc := 0) (i := 1) dX0_copyFrom_0 rfl rfl ?_
  refine m_gr (pc := 1) dX0_copyFrom_1 ff_X0_9 rfl o_24 r_24_0 ?_
  refine m_ic (pc := 4) (v := 0) dX0_copyFrom_4 rfl ?_
  refine s_aload_n (pc := 5) (i := 0) dX0_copyFrom_5 rfl rfl ?_
  refine m_gr (pc := 6) dX0_copyFrom_6 ff_X0_9 rfl o_22 r_22_0 ?_
  refine m_ic (pc := 9) (v := 0) dX0_copyFrom_9 rfl ?_
  refine m_bi (pc := 10) (v := 7) dX0_copyFrom_10 rfl ?_
  refine m_cp (pc := 12) dX0_copyFrom_12 ml_X0_28 a_25 a_23 (by omega) (by decide) rfl (by decide) (by decide) (Nat.le_of_ble_eq_true rfl) ?_
  refine s_aload_n (pc := 15) (i := 0) dX0_copyFrom_15 rfl rfl ?_
  refine s_aload_n (pc := 16) (i := 1) dX0_copyFrom_16 rfl rfl ?_
  refine m_gi (pc := 17) dX0_copyFrom_17 ff_X0_24 rfl o_24 ?_
  refine m_pi (pc := 20) dX0_copyFrom_20 ff_X0_24 rfl rfl o_22 ?_
  refine s_return (pc := 23) dX0_copyFrom_23 rfl ?_
  exact hq
theorem c_X11_book {T : Nat} {x : Int32} {D : cD} (h : tT I t T) (hD : Co I 4 D) (hk : cOk D) (hn : n + 1 ≤ 600000 ∧ w + 6 ≤ 7000000)
 (h1 : ¬ (¬ x < 0 ∧ ¬ nI (min T 60) < x) → Q (.inr 1) (Z (up I 1 18 (I 1 18 + 1)) J (n + 1) (w + 6)))
 (h2 : ∀ N e I' a' wf' wt', x = nI N → N ≤ min T 60 → rBk t N (cb D) 60 (sk t N 0) (fun _ => none) 0 = .inl e → fC (up (up I 2 1 0) 2 2 x) I' → Q (.inl (some (.int (nI e.1 - 10)))) (Z (tp I' a' wf' wt' (nI e.1) (nI e.2)) J n w))
 (h3 : ∀ N B k I' a' wf' wt', x = nI N → N ≤ min T 60 → rBk t N (cb D) 60 (sk t N 0) (fun _ => none) 0 = .inr (B, k) → k ≤ 60 → fC (up (up I 2 1 0) 2 2 x) I' → Bc I' 24 B k → bOk B → Q (.inl (some (.int (nI k)))) (Z (up (cpI (tp I' a' wf' wt' 0 (-1)) 25 23 7) 22 1 (tp I' a' wf' wt' 0 (-1) 24 1)) J n w)) : Cn g (d + 8) mX11_book [.ref 1, .int x] (Z I J n w) Q := by
  have hT := h.1
  show Rn g (d + 8) mX11_book 0 [.ref 1, .int x] [] [] (Z I J n w) Q
  refine s_aload_n (pc := 0) (i := 0) dX11_book_0 rfl rfl ?_
  refine s_iload_n (pc := 1) (i := 1) dX11_book_1 rfl rfl ?_
  refine m_bi (pc := 2) (v := 60) dX11_book_2 rfl ?_
  refine m_v2 (pc := 4) dX11_book_4 lk_X11_111 ok_X11_needTextLength (rcO o_1 (by decide) rfl) rfl rfl (c_X11_needTextLength (N := min T 60) h.2.1 (minT h.1 (by decide)) hn (fun k e1 e2 => kt_v ?_) (fun z => kt_x ?_) (by omega))
  · refine s_aload_n (pc := 7) (i := 0) dX11_book_7 rfl rfl ?_
    refine m_gr (pc := 8) dX11_book_8 ff_X11_10 rfl o_1 r_1_0 ?_
    refine s_iload_n (pc := 11) (i := 1) dX11_book_11 rfl rfl ?_
    refine m_v1 (pc := 12) dX11_book_12 lk_X11_115 ok_X10_open (rcO o_2 (by decide) rfl) rfl rfl (c_X10_open h (N := k) (by omega) e1 (fun wf wt => kt_v ?_))
    refine s_aload_n (pc := 15) (i := 0) dX11_book_15 rfl rfl ?_
    refine m_gr (pc := 16) dX11_book_16 ff_X11_43 rfl o_1 r_1_6 ?_
    refine s_aload_n (pc := 19) (i := 0) dX11_book_19 rfl rfl ?_
    refine m_gr (pc := 20) dX11_book_20 ff_X11_10 rfl o_1 r_1_0 ?_
    refine s_aload_n (pc := 23) (i := 0) dX11_book_23 rfl rfl ?_
    refine m_gr (pc := 24) dX11_book_24 ff_X11_19 rfl o_1 r_1_1 ?_
    refine m_gi (pc := 27) dX11_book_27 ff_X11_143 rfl o_4 ?_
    refine m_nm (v' := nI (cb D)) (by rw [tp_o (by decide), up_a (by decide), up_a (by decide)]; exact hD.1) ?_
    refine m_v2 (pc := 30) dX11_book_30 lk_X11_166 ok_X0_readFrom (rcO o_24 (by decide) rfl) rfl rfl (c_X0_readFrom hk.1 (tT_x h (N := k) (by omega) e1) (sk_le (by omega)) (by omega) (fun e a1 wf1 wt1 I1 q1 q2 => kt_s ?_) (fun B k2 a1 wf1 wt1 I1 q1 q5 q2 q3 q4 => kt_s ?_))
    · refine s_ifne (pc := 33) (tgt := 44) dX11_book_33 rfl (fun h33 => absurd h33 (by decide)) (fun h33 => ?_)
      refine s_aload_n (pc := 36) (i := 0) dX11_book_36 rfl rfl ?_
      refine m_gr (pc := 37) dX11_book_37 ff_X11_10 rfl o_1 r_1_0 ?_
      refine m_v0 (pc := 40) dX11_book_40 lk_X11_122 ok_X10_faultAnswer (rcO o_2 (by decide) rfl) rfl rfl (c_X10_faultAnswer (kt_s ?_))
      refine s_ireturn (pc := 43) dX11_book_43 rfl rfl ?_
      exact h2 k e I1 a1 wf1 wt1 e1 e2 q1 q2
    · refine s_ifne (pc := 33) (tgt := 44) dX11_book_33 rfl (fun h33 => ?_) (fun h33 => absurd h33 (by decide))
      refine s_aload_n (pc := 44) (i := 0) dX11_book_44 rfl rfl ?_
      refine m_gr (pc := 45) dX11_book_45 ff_X11_39 rfl o_1 r_1_5 ?_
      refine s_aload_n (pc := 48) (i := 0) dX11_book_48 rfl rfl ?_
      refine m_gr (pc := 49) dX11_book_49 ff_X11_43 rfl o_1 r_1_6 ?_
      refine m_v1 (pc := 52) dX11_book_52 lk_X11_169 ok_X0_copyFrom (rcO o_22 (by decide) rfl) rfl rfl (c_X0_copyFrom (kt_v ?_))
      refine s_aload_n (pc := 55) (i := 0) dX11_book_55 rfl rfl ?_
      refine m_gr (pc := 56) dX11_book_56 ff_X11_39 rfl o_1 r_1_5 ?_
      refine m_gi (pc := 59) dX11_book_59 ff_X11_172 rfl o_22 ?_
      refine m_nm (v' := nI k2) (by rw [up_s, tp_o (by decide)]; exact q3.1) ?_
      refine s_ireturn (pc := 62) dX11_book_62 rfl rfl ?_
      exact h3 k B k2 I1 a1 wf1 wt1 e1 e2 q1 q5 q2 q3 q4
  · exact h1 z
end S
