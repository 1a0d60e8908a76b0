section S
variable {g : aG} {d : Nat} {I : Nat → Nat → Int32} {J : Nat → Nat → Int64} {n w : Nat} {Q : aO → aS → Prop}
variable {t : Nat → Nat} {N a wf wt : Nat} {fk fp : Int32} {σ : aS}
/-- the codes read so far, in the class's draft -/
def Lc (I : Nat → Nat → Int32) (cs : List Nat) : Prop := I 18 3 = nI cs.length ∧ ∀ i, i < cs.length → I 19 i = nI (cs.getD i 0)
theorem Lc_add {cs : List Nat} {v : Nat} (h : Lc I cs) : Lc (up (up I 19 cs.length (nI v)) 18 3 (nI (cs.length + 1))) (cs ++ [v]) := by
  refine ⟨by rw [up_s, List.length_append, List.length_singleton], fun i hi => ?_⟩
  rw [List.length_append, List.length_singleton] at hi
  rw [up_a (by decide)]
  by_cases e : i = cs.length
  · subst e; rw [up_s]; simp
  · rw [up_k e, h.2 i (by omega)]
    simp [List.getD, List.getElem?_append_left (show i < cs.length by omega)]
theorem c_ad {cs : List Nat} {v : Nat} {vi : Int32} (hx : tx I t N) (h : Lc I cs) (hl : cs.length < 150) (hv : vi = nI v) (hq : ∀ I', fC I I' → tx I' t N → Lc I' (cs ++ [v]) → Q (.inl (some (.int 1))) (Z (tp I' a wf wt fk fp) J n w)) : Cn g (d + 0) mX4_add [.ref 18, .int vi] (Z (tp I a wf wt fk fp) J n w) Q := by
  subst hv
  refine c_X4_add (m := cs.length) lO_18 ((tp_o (by decide)).trans h.1) hl ?_
  rw [tp_up (by decide), tp_up (by decide)]
  have f := fC_u (k := 3) (v := nI (cs.length + 1)) (x := 18) (fC_u (k := cs.length) (v := nI v) (x := 19) (fC_r (I := I)) (by decide)) (by decide)
  exact hq _ f (tx_f hx f) (Lc_add h)
/-- a method that reads codes, by its spec -/
def cRd (g : aG) (mm : aM) (k : Nat) (t : Nat → Nat) (N : Nat) (U : Nat → List Nat → lT) (op : Int32) : Prop := ∀ (d : Nat) (I : Nat → Nat → Int32) (J : Nat → Nat → Int64) (n w : Nat) (Q : aO → aS → Prop) (a wf wt : Nat) (fk fp : Int32) (cs : List Nat), tx I t N → a ≤ N → N ≤ 150 → Lc I cs → cs.length ≤ a →
  (∀ e a' wf' wt' I', U a cs = .inl e → fC I I' → Q (.inl (some (.int 0))) (Z (tp I' a' wf' wt' (nI e.1) (nI e.2)) J n w)) → (∀ p c2 I' wf' wt', U a cs = .inr (p, c2) → fC I I' → Lc I' c2 → Q (.inl (some (.int 1))) (Z (tp I' p wf' wt' fk fp) J n w)) → Cn g (d + k) mm [.ref 18, .ref 2, .int op] (Z (tp I a wf wt fk fp) J n w) Q
theorem sb_op : ∀ c, c < 128 → (2000 : Int32) + sb_b c = nI (2000 + c) := by decide +kernel
theorem readProduct_lp {k : Nat} {U : Nat → List Nat → lT} {op : Int32} (hU : cRd g mX4_readUnit (k + 6) t N U op) (hG : gU N U) (hN : N ≤ 150) : ∀ f i I a wf wt cs (v4 : Value), tx I t N → a ≤ N → N - a ≤ f → i + f = 150 → Lc I cs → cs.length ≤ a →
    (∀ e a' wf' wt' I', lR t N U opP f a cs = .inl e → fC I I' → Q (.inl (some (.int 0))) (Z (tp I' a' wf' wt' (nI e.1) (nI e.2)) J n w)) → (∀ p c2 I' wf' wt', lR t N U opP f a cs = .inr (p, c2) → fC I I' → Lc I' c2 → Q (.inl (some (.int 1))) (Z (tp I' p wf' wt' fk fp) J n w)) →
    Rn g (d + (k + 7)) mX4_readProduct 13 [.ref 18, .ref 2, .int op, .int (nI i), v4] [] [] (Z (tp I a wf wt fk fp) J n w) Q := by
  have e150 : (150 : Int32) = nI 150 := rfl
  intro f
  induction f with
  | zero =>
    intro i I a wf wt cs v4 hx ha hf hi hL hl hb hg
    refine s_iload_n (pc := 13) (i := 3) dX4_readProduct_13 rfl rfl ?_
    refine m_si (pc := 14) (v := 150) dX4_readProduct_14 rfl ?_
    refine s_icge (pc := 17) (tgt := 85) dX4_readProduct_17 rfl (fun h17 => ?_) (fun h17 => absurd (nI_le (a := 150) (b := i) (by omega) (by omega)) h17)
    refine m_ic (pc := 85) (v := 1) dX4_readProduct_85 rfl ?_
    refine s_ireturn (pc := 86) dX4_readProduct_86 rfl rfl ?_
    exact hg a cs I wf wt rfl fC_r hL
  | succ f ih =>
    intro i I a wf wt cs v4 hx ha hf hi hL hl hb hg
    unfold lR at hb hg
    refine s_iload_n (pc := 13) (i := 3) dX4_readProduct_13 rfl rfl ?_
    refine m_si (pc := 14) (v := 150) dX4_readProduct_14 rfl ?_
    refine s_icge (pc := 17) (tgt := 85) dX4_readProduct_17 rfl (fun h17 => absurd h17 (nI_ge (a := i) (b := 150) (by omega) (by omega))) (fun h17 => ?_)
    refine s_aload_n (pc := 20) (i := 1) dX4_readProduct_20 rfl rfl ?_
    refine m_bi (pc := 21) (v := 42) dX4_readProduct_21 rfl ?_
    refine m_v1 (pc := 23) dX4_readProduct_23 lk_X4_58 ok_X10_isAt (rcO o_2 (by decide) rfl) rfl rfl (c_X10_isAt (c := 42) hx ha (by decide) (fun hlt h42 => kt_s ?_) (fun n42 => kt_s ?_))
    · have ho : opP (t a) = true := by rw [h42]; rfl
      rw [if_pos ⟨hlt, ho⟩] at hb hg
      have hc := tx_c hx hlt
      have hk := sk_le (t := t) (N := N) (a := a + 1) (by omega)
      have hk2 := sk_ge (t := t) (N := N) (a := a + 1)
      refine s_ifne (pc := 26) (tgt := 47) dX4_readProduct_26 rfl (fun h26 => ?_) (fun h26 => absurd h26 (by decide))
      refine s_aload_n (pc := 47) (i := 1) dX4_readProduct_47 rfl rfl ?_
      refine m_v0 (pc := 48) dX4_readProduct_48 lk_X4_62 ok_X10_sign (rcO o_2 (by decide) rfl) rfl rfl (c_X10_sign hx hlt (kt_s ?_))
      refine s_istore (pc := 51) (i := 4) dX4_readProduct_51 (Nat.le_of_ble_eq_true rfl) ?_
      dsimp only [List.set, List.filter]
      refine s_aload_n (pc := 53) (i := 1) dX4_readProduct_53 rfl rfl ?_
      refine m_v0 (pc := 54) dX4_readProduct_54 lk_X4_66 ok_X10_step (rcO o_2 (by decide) rfl) rfl rfl (c_X10_step hx hlt (kt_v ?_))
      refine s_aload_n (pc := 57) (i := 0) dX4_readProduct_57 rfl rfl ?_
      refine s_aload_n (pc := 58) (i := 1) dX4_readProduct_58 rfl rfl ?_
      refine s_iload_n (pc := 59) (i := 2) dX4_readProduct_59 rfl rfl ?_
      refine m_v2 (pc := 60) dX4_readProduct_60 lk_X4_69 ok_X4_readUnit (rcO o_18 (by decide) rfl) rfl rfl (hU _ _ _ _ _ _ _ _ _ _ _ _ hx hk hN hL (by omega) (fun e a1 wf1 wt1 I1 q1 q2 => kt_s ?_) (fun p1 c2 I1 wf1 wt1 q1 q2 q3 => kt_s ?_))
      · rw [q1] at hb
        refine s_ifne (pc := 63) (tgt := 68) dX4_readProduct_63 rfl (fun h63 => absurd h63 (by decide)) (fun h63 => ?_)
        refine m_ic (pc := 66) (v := 0) dX4_readProduct_66 rfl ?_
        refine s_ireturn (pc := 67) dX4_readProduct_67 rfl rfl ?_
        exact hb e a1 wf1 wt1 I1 rfl q2
      · rw [q1] at hb hg
        simp only [] at hb hg
        have g1 := hG _ _ _ _ hk q1
        have hx1 := tx_f hx q2
        refine s_ifne (pc := 63) (tgt := 68) dX4_readProduct_63 rfl (fun h63 => ?_) (fun h63 => absurd h63 (by decide))
        refine s_aload_n (pc := 68) (i := 0) dX4_readProduct_68 rfl rfl ?_
        refine m_si (pc := 69) (v := 2000) dX4_readProduct_69 rfl ?_
        refine s_iload (pc := 72) (i := 4) dX4_readProduct_72 rfl ?_
        refine s_iadd (pc := 74) dX4_readProduct_74 ?_
        refine m_v1 (pc := 75) dX4_readProduct_75 lk_X4_28 ok_X4_add (rcO o_18 (by decide) rfl) rfl rfl (c_ad (v := 2000 + t a) hx1 q3 (by omega) (sb_op _ (by omega)) (fun I2 r1 r2 r3 => kt_s ?_))
        refine s_pop (pc := 78) dX4_readProduct_78 rfl ?_
        refine m_inc (pc := 79) (v := 1) dX4_readProduct_79 rfl rfl ?_
        dsimp only [List.set, List.filter]
        rw [nI_1]
        refine s_goto (pc := 82) (tgt := 13) dX4_readProduct_82 rfl ?_
        exact ih (i + 1) I2 p1 wf1 wt1 (c2 ++ [2000 + t a]) _ r2 (by omega) (by omega) (by omega) r3 (by rw [List.length_append, List.length_singleton]; omega) (fun e a' wf' wt' I' z1 z2 => hb e a' wf' wt' I' z1 (fC_t q2 (fC_t r1 z2))) (fun p c3 I' wf' wt' z1 z2 z3 => hg p c3 I' wf' wt' z1 (fC_t q2 (fC_t r1 z2)) z3)
    · refine s_ifne (pc := 26) (tgt := 47) dX4_readProduct_26 rfl (fun h26 => absurd h26 (by decide)) (fun h26 => ?_)
      refine s_aload_n (pc := 29) (i := 1) dX4_readProduct_29 rfl rfl ?_
      refine m_bi (pc := 30) (v := 47) dX4_readProduct_30 rfl ?_
      refine m_v1 (pc := 32) dX4_readProduct_32 lk_X4_58 ok_X10_isAt (rcO o_2 (by decide) rfl) rfl rfl (c_X10_isAt (c := 47) hx ha (by decide) (fun hlt h47 => kt_s ?_) (fun n47 => kt_s ?_))
      · have ho : opP (t a) = true := by rw [h47]; rfl
        rw [if_pos ⟨hlt, ho⟩] at hb hg
        have hc := tx_c hx hlt
        have hk := sk_le (t := t) (N := N) (a := a + 1) (by omega)
        have hk2 := sk_ge (t := t) (N := N) (a := a + 1)
        refine s_ifne (pc := 35) (tgt := 47) dX4_readProduct_35 rfl (fun h35 => ?_) (fun h35 => absurd h35 (by decide))
        refine s_aload_n (pc := 47) (i := 1) dX4_readProduct_47 rfl rfl ?_
        refine m_v0 (pc := 48) dX4_readProduct_48 lk_X4_62 ok_X10_sign (rcO o_2 (by decide) rfl) rfl rfl (c_X10_sign hx hlt (kt_s ?_))
        refine s_istore (pc := 51) (i := 4) dX4_readProduct_51 (Nat.le_of_ble_eq_true rfl) ?_
        dsimp only [List.set, List.filter]
        refine s_aload_n (pc := 53) (i := 1) dX4_readProduct_53 rfl rfl ?_
        refine m_v0 (pc := 54) dX4_readProduct_54 lk_X4_66 ok_X10_step (rcO o_2 (by decide) rfl) rfl rfl (c_X10_step hx hlt (kt_v ?_))
        refine s_aload_n (pc := 57) (i := 0) dX4_readProduct_57 rfl rfl ?_
        refine s_aload_n (pc := 58) (i := 1) dX4_readProduct_58 rfl rfl ?_
        refine s_iload_n (pc := 59) (i := 2) dX4_readProduct_59 rfl rfl ?_
        refine m_v2 (pc := 60) dX4_readProduct_60 lk_X4_69 ok_X4_readUnit (rcO o_18 (by decide) rfl) rfl rfl (hU _ _ _ _ _ _ _ _ _ _ _ _ hx hk hN hL (by omega) (fun e a1 wf1 wt1 I1 q1 q2 => kt_s ?_) (fun p1 c2 I1 wf1 wt1 q1 q2 q3 => kt_s ?_))
        · rw [q1] at hb
          refine s_ifne (pc := 63) (tgt := 68) dX4_readProduct_63 rfl (fun h63 => absurd h63 (by decide)) (fun h63 => ?_)
          refine m_ic (pc := 66) (v := 0) dX4_readProduct_66 rfl ?_
          refine s_ireturn (pc := 67) dX4_readProduct_67 rfl rfl ?_
          exact hb e a1 wf1 wt1 I1 rfl q2
        · rw [q1] at hb hg
          simp only [] at hb hg
          have g1 := hG _ _ _ _ hk q1
          have hx1 := tx_f hx q2
          refine s_ifne (pc := 63) (tgt := 68) dX4_readProduct_63 rfl (fun h63 => ?_) (fun h63 => absurd h63 (by decide))
          refine s_aload_n (pc := 68) (i := 0) dX4_readProduct_68 rfl rfl ?_
          refine m_si (pc := 69) (v := 2000) dX4_readProduct_69 rfl ?_
          refine s_iload (pc := 72) (i := 4) dX4_readProduct_72 rfl ?_
          refine s_iadd (pc := 74) dX4_readProduct_74 ?_
          refine m_v1 (pc := 75) dX4_readProduct_75 lk_X4_28 ok_X4_add (rcO o_18 (by decide) rfl) rfl rfl (c_ad (v := 2000 + t a) hx1 q3 (by omega) (sb_op _ (by omega)) (fun I2 r1 r2 r3 => kt_s ?_))
          refine s_pop (pc := 78) dX4_readProduct_78 rfl ?_
          refine m_inc (pc := 79) (v := 1) dX4_readProduct_79 rfl rfl ?_
          dsimp only [List.set, List.filter]
          rw [nI_1]
          refine s_goto (pc := 82) (tgt := 13) dX4_readProduct_82 rfl ?_
          exact ih (i + 1) I2 p1 wf1 wt1 (c2 ++ [2000 + t a]) _ r2 (by omega) (by omega) (by omega) r3 (by rw [List.length_append, List.length_singleton]; omega) (fun e a' wf' wt' I' z1 z2 => hb e a' wf' wt' I' z1 (fC_t q2 (fC_t r1 z2))) (fun p c3 I' wf' wt' z1 z2 z3 => hg p c3 I' wf' wt' z1 (fC_t q2 (fC_t r1 z2)) z3)
      · refine s_ifne (pc := 35) (tgt := 47) dX4_readProduct_35 rfl (fun h35 => absurd h35 (by decide)) (fun h35 => ?_)
        refine s_aload_n (pc := 38) (i := 1) dX4_readProduct_38 rfl rfl ?_
        refine m_bi (pc := 39) (v := 37) dX4_readProduct_39 rfl ?_
        refine m_v1 (pc := 41) dX4_readProduct_41 lk_X4_58 ok_X10_isAt (rcO o_2 (by decide) rfl) rfl rfl (c_X10_isAt (c := 37) hx ha (by decide) (fun hlt h37 => kt_s ?_) (fun n37 => kt_s ?_))
        · have ho : opP (t a) = true := by rw [h37]; rfl
          rw [if_pos ⟨hlt, ho⟩] at hb hg
          have hc := tx_c hx hlt
          have hk := sk_le (t := t) (N := N) (a := a + 1) (by omega)
          have hk2 := sk_ge (t := t) (N := N) (a := a + 1)
          refine s_ifeq (pc := 44) (tgt := 85) dX4_readProduct_44 rfl (fun h44 => absurd h44 (by decide)) (fun h44 => ?_)
          refine s_aload_n (pc := 47) (i := 1) dX4_readProduct_47 rfl rfl ?_
          refine m_v0 (pc := 48) dX4_readProduct_48 lk_X4_62 ok_X10_sign (rcO o_2 (by decide) rfl) rfl rfl (c_X10_sign hx hlt (kt_s ?_))
          refine s_istore (pc := 51) (i := 4) dX4_readProduct_51 (Nat.le_of_ble_eq_true rfl) ?_
          dsimp only [List.set, List.filter]
          refine s_aload_n (pc := 53) (i := 1) dX4_readProduct_53 rfl rfl ?_
          refine m_v0 (pc := 54) dX4_readProduct_54 lk_X4_66 ok_X10_step (rcO o_2 (by decide) rfl) rfl rfl (c_X10_step hx hlt (kt_v ?_))
          refine s_aload_n (pc := 57) (i := 0) dX4_readProduct_57 rfl rfl ?_
          refine s_aload_n (pc := 58) (i := 1) dX4_readProduct_58 rfl rfl ?_
          refine s_iload_n (pc := 59) (i := 2) dX4_readProduct_59 rfl rfl ?_
          refine m_v2 (pc := 60) dX4_readProduct_60 lk_X4_69 ok_X4_readUnit (rcO o_18 (by decide) rfl) rfl rfl (hU _ _ _ _ _ _ _ _ _ _ _ _ hx hk hN hL (by omega) (fun e a1 wf1 wt1 I1 q1 q2 => kt_s ?_) (fun p1 c2 I1 wf1 wt1 q1 q2 q3 => kt_s ?_))
          · rw [q1] at hb
            refine s_ifne (pc := 63) (tgt := 68) dX4_readProduct_63 rfl (fun h63 => absurd h63 (by decide)) (fun h63 => ?_)
            refine m_ic (pc := 66) (v := 0) dX4_readProduct_66 rfl ?_
            refine s_ireturn (pc := 67) dX4_readProduct_67 rfl rfl ?_
            exact hb e a1 wf1 wt1 I1 rfl q2
          · rw [q1] at hb hg
            simp only [] at hb hg
            have g1 := hG _ _ _ _ hk q1
            have hx1 := tx_f hx q2
            refine s_ifne (pc := 63) (tgt := 68) dX4_readProduct_63 rfl (fun h63 => ?_) (fun h63 => absurd h63 (by decide))
            refine s_aload_n (pc := 68) (i := 0) dX4_readProduct_68 rfl rfl ?_
            refine m_si (pc := 69) (v := 2000) dX4_readProduct_69 rfl ?_
            refine s_iload (pc := 72) (i := 4) dX4_readProduct_72 rfl ?_
            refine s_iadd (pc := 74) dX4_readProduct_74 ?_
            refine m_v1 (pc := 75) dX4_readProduct_75 lk_X4_28 ok_X4_add (rcO o_18 (by decide) rfl) rfl rfl (c_ad (v := 2000 + t a) hx1 q3 (by omega) (sb_op _ (by omega)) (fun I2 r1 r2 r3 => kt_s ?_))
            refine s_pop (pc := 78) dX4_readProduct_78 rfl ?_
            refine m_inc (pc := 79) (v := 1) dX4_readProduct_79 rfl rfl ?_
            dsimp only [List.set, List.filter]
            rw [nI_1]
            refine s_goto (pc := 82) (tgt := 13) dX4_readProduct_82 rfl ?_
            exact ih (i + 1) I2 p1 wf1 wt1 (c2 ++ [2000 + t a]) _ r2 (by omega) (by omega) (by omega) r3 (by rw [List.length_append, List.length_singleton]; omega) (fun e a' wf' wt' I' z1 z2 => hb e a' wf' wt' I' z1 (fC_t q2 (fC_t r1 z2))) (fun p c3 I' wf' wt' z1 z2 z3 => hg p c3 I' wf' wt' z1 (fC_t q2 (fC_t r1 z2)) z3)
        · have hno : ¬ (a < N ∧ opP (t a) = true) := by
            rintro ⟨z1, z2⟩
            simp only [opP, Bool.or_eq_true, beq_iff_eq] at z2
            omega
          rw [if_neg hno] at hg
          refine s_ifeq (pc := 44) (tgt := 85) dX4_readProduct_44 rfl (fun h44 => ?_) (fun h44 => absurd h44 (by decide))
          refine m_ic (pc := 85) (v := 1) dX4_readProduct_85 rfl ?_
          refine s_ireturn (pc := 86) dX4_readProduct_86 rfl rfl ?_
          exact hg a cs I wf wt rfl fC_r hL
theorem c_X4_readProduct {k : Nat} {U : Nat → List Nat → lT} {op : Int32} (hU : cRd g mX4_readUnit (k + 6) t N U op) (hG : gU N U) : cRd g mX4_readProduct (k + 7) t N (lF t N U opP) op := by
  intro d I J n w Q a wf wt fk fp cs hx ha hN hL hl hb hg
  show Rn g (d + (k + 7)) mX4_readProduct 0 [.ref 18, .ref 2, .int op, .retAddr 0, .retAddr 0] [] [] (Z (tp I a wf wt fk fp) J n w) Q
  refine s_aload_n (pc := 0) (i := 0) dX4_readProduct_0 rfl rfl ?_
  refine s_aload_n (pc := 1) (i := 1) dX4_readProduct_1 rfl rfl ?_
  refine s_iload_n (pc := 2) (i := 2) dX4_readProduct_2 rfl rfl ?_
  refine m_v2 (pc := 3) dX4_readProduct_3 lk_X4_69 ok_X4_readUnit (rcO o_18 (by decide) rfl) rfl rfl (hU _ _ _ _ _ _ _ _ _ _ _ _ hx ha hN hL hl (fun e a1 wf1 wt1 I1 q1 q2 => kt_s ?_) (fun p1 c2 I1 wf1 wt1 q1 q2 q3 => kt_s ?_))
  · refine s_ifne (pc := 6) (tgt := 11) dX4_readProduct_6 rfl (fun h6 => absurd h6 (by decide)) (fun h6 => ?_)
    refine m_ic (pc := 9) (v := 0) dX4_readProduct_9 rfl ?_
    refine s_ireturn (pc := 10) dX4_readProduct_10 rfl rfl ?_
    exact hb e a1 wf1 wt1 I1 (by unfold lF; rw [q1]) q2
  · refine s_ifne (pc := 6) (tgt := 11) dX4_readProduct_6 rfl (fun h6 => ?_) (fun h6 => absurd h6 (by decide))
    refine m_ic (pc := 11) (v := 0) dX4_readProduct_11 rfl ?_
    refine s_istore_n (pc := 12) (i := 3) dX4_readProduct_12 rfl (Nat.le_of_ble_eq_true rfl) ?_
    dsimp only [List.set, List.filter]
    have g1 := hG _ _ _ _ ha q1
    exact readProduct_lp hU hG hN 150 0 I1 p1 wf1 wt1 c2 _ (tx_f hx q2) g1.2.1 (by omega) (by omega) q3 (by omega) (fun e a' wf' wt' I' z1 z2 => hb e a' wf' wt' I' (by unfold lF; rw [q1]; exact z1) (fC_t q2 z2)) (fun p c3 I' wf' wt' z1 z2 z3 => hg p c3 I' wf' wt' (by unfold lF; rw [q1]; exact z1) (fC_t q2 z2) z3)
theorem readSum_lp {k : Nat} {U : Nat → List Nat → lT} {op : Int32} (hU : cRd g mX4_readProduct (k + 6) t N U op) (hG : gU N U) (hN : N ≤ 150) : ∀ f i I a wf wt cs (v4 : Value), tx I t N → a ≤ N → N - a ≤ f → i + f = 150 → Lc I cs → cs.length ≤ a →
    (∀ e a' wf' wt' I', lR t N U opS f a cs = .inl e → fC I I' → Q (.inl (some (.int 0))) (Z (tp I' a' wf' wt' (nI e.1) (nI e.2)) J n w)) → (∀ p c2 I' wf' wt', lR t N U opS f a cs = .inr (p, c2) → fC I I' → Lc I' c2 → Q (.inl (some (.int 1))) (Z (tp I' p wf' wt' fk fp) J n w)) →
    Rn g (d + (k + 7)) mX4_readSum 13 [.ref 18, .ref 2, .int op, .int (nI i), v4] [] [] (Z (tp I a wf wt fk fp) J n w) Q := by
  have e150 : (150 : Int32) = nI 150 := rfl
  intro f
  induction f with
  | zero =>
    intro i I a wf wt cs v4 hx ha hf hi hL hl hb hg
    refine s_iload_n (pc := 13) (i := 3) dX4_readSum_13 rfl rfl ?_
    refine m_si (pc := 14) (v := 150) dX4_readSum_14 rfl ?_
    refine s_icge (pc := 17) (tgt := 76) dX4_readSum_17 rfl (fun h17 => ?_) (fun h17 => absurd (nI_le (a := 150) (b := i) (by omega) (by omega)) h17)
    refine m_ic (pc := 76) (v := 1) dX4_readSum_76 rfl ?_
    refine s_ireturn (pc := 77) dX4_readSum_77 rfl rfl ?_
    exact hg a cs I wf wt rfl fC_r hL
  | succ f ih =>
    intro i I a wf wt cs v4 hx ha hf hi hL hl hb hg
    unfold lR at hb hg
    refine s_iload_n (pc := 13) (i := 3) dX4_readSum_13 rfl rfl ?_
    refine m_si (pc := 14) (v := 150) dX4_readSum_14 rfl ?_
    refine s_icge (pc := 17) (tgt := 76) dX4_readSum_17 rfl (fun h17 => absurd h17 (nI_ge (a := i) (b := 150) (by omega) (by omega))) (fun h17 => ?_)
    refine s_aload_n (pc := 20) (i := 1) dX4_readSum_20 rfl rfl ?_
    refine m_bi (pc := 21) (v := 43) dX4_readSum_21 rfl ?_
    refine m_v1 (pc := 23) dX4_readSum_23 lk_X4_58 ok_X10_isAt (rcO o_2 (by decide) rfl) rfl rfl (c_X10_isAt (c := 43) hx ha (by decide) (fun hlt h43 => kt_s ?_) (fun n43 => kt_s ?_))
    · have ho : opS (t a) = true := by rw [h43]; rfl
      rw [if_pos ⟨hlt, ho⟩] at hb hg
      have hc := tx_c hx hlt
      have hk := sk_le (t := t) (N := N) (a := a + 1) (by omega)
      have hk2 := sk_ge (t := t) (N := N) (a := a + 1)
      refine s_ifne (pc := 26) (tgt := 38) dX4_readSum_26 rfl (fun h26 => ?_) (fun h26 => absurd h26 (by decide))
      refine s_aload_n (pc := 38) (i := 1) dX4_readSum_38 rfl rfl ?_
      refine m_v0 (pc := 39) dX4_readSum_39 lk_X4_62 ok_X10_sign (rcO o_2 (by decide) rfl) rfl rfl (c_X10_sign hx hlt (kt_s ?_))
      refine s_istore (pc := 42) (i := 4) dX4_readSum_42 (Nat.le_of_ble_eq_true rfl) ?_
      dsimp only [List.set, List.filter]
      refine s_aload_n (pc := 44) (i := 1) dX4_readSum_44 rfl rfl ?_
      refine m_v0 (pc := 45) dX4_readSum_45 lk_X4_66 ok_X10_step (rcO o_2 (by decide) rfl) rfl rfl (c_X10_step hx hlt (kt_v ?_))
      refine s_aload_n (pc := 48) (i := 0) dX4_readSum_48 rfl rfl ?_
      refine s_aload_n (pc := 49) (i := 1) dX4_readSum_49 rfl rfl ?_
      refine s_iload_n (pc := 50) (i := 2) dX4_readSum_50 rfl rfl ?_
      refine m_v2 (pc := 51) dX4_readSum_51 lk_X4_55 ok_X4_readProduct (rcO o_18 (by decide) rfl) rfl rfl (hU _ _ _ _ _ _ _ _ _ _ _ _ hx hk hN hL (by omega) (fun e a1 wf1 wt1 I1 q1 q2 => kt_s ?_) (fun p1 c2 I1 wf1 wt1 q1 q2 q3 => kt_s ?_))
      · rw [q1] at hb
        refine s_ifne (pc := 54) (tgt := 59) dX4_readSum_54 rfl (fun h54 => absurd h54 (by decide)) (fun h54 => ?_)
        refine m_ic (pc := 57) (v := 0) dX4_readSum_57 rfl ?_
        refine s_ireturn (pc := 58) dX4_readSum_58 rfl rfl ?_
        exact hb e a1 wf1 wt1 I1 rfl q2
      · rw [q1] at hb hg
        simp only [] at hb hg
        have g1 := hG _ _ _ _ hk q1
        have hx1 := tx_f hx q2
        refine s_ifne (pc := 54) (tgt := 59) dX4_readSum_54 rfl (fun h54 => ?_) (fun h54 => absurd h54 (by decide))
        refine s_aload_n (pc := 59) (i := 0) dX4_readSum_59 rfl rfl ?_
        refine m_si (pc := 60) (v := 2000) dX4_readSum_60 rfl ?_
        refine s_iload (pc := 63) (i := 4) dX4_readSum_63 rfl ?_
        refine s_iadd (pc := 65) dX4_readSum_65 ?_
        refine m_v1 (pc := 66) dX4_readSum_66 lk_X4_28 ok_X4_add (rcO o_18 (by decide) rfl) rfl rfl (c_ad (v := 2000 + t a) hx1 q3 (by omega) (sb_op _ (by omega)) (fun I2 r1 r2 r3 => kt_s ?_))
        refine s_pop (pc := 69) dX4_readSum_69 rfl ?_
        refine m_inc (pc := 70) (v := 1) dX4_readSum_70 rfl rfl ?_
        dsimp only [List.set, List.filter]
        rw [nI_1]
        refine s_goto (pc := 73) (tgt := 13) dX4_readSum_73 rfl ?_
        exact ih (i + 1) I2 p1 wf1 wt1 (c2 ++ [2000 + t a]) _ r2 (by omega) (by omega) (by omega) r3 (by rw [List.length_append, List.length_singleton]; omega) (fun e a' wf' wt' I' z1 z2 => hb e a' wf' wt' I' z1 (fC_t q2 (fC_t r1 z2))) (fun p c3 I' wf' wt' z1 z2 z3 => hg p c3 I' wf' wt' z1 (fC_t q2 (fC_t r1 z2)) z3)
    · refine s_ifne (pc := 26) (tgt := 38) dX4_readSum_26 rfl (fun h26 => absurd h26 (by decide)) (fun h26 => ?_)
      refine s_aload_n (pc := 29) (i := 1) dX4_readSum_29 rfl rfl ?_
      refine m_bi (pc := 30) (v := 45) dX4_readSum_30 rfl ?_
      refine m_v1 (pc := 32) dX4_readSum_32 lk_X4_58 ok_X10_isAt (rcO o_2 (by decide) rfl) rfl rfl (c_X10_isAt (c := 45) hx ha (by decide) (fun hlt h45 => kt_s ?_) (fun n45 => kt_s ?_))
      · have ho : opS (t a) = true := by rw [h45]; rfl
        rw [if_pos ⟨hlt, ho⟩] at hb hg
        have hc := tx_c hx hlt
        have hk := sk_le (t := t) (N := N) (a := a + 1) (by omega)
        have hk2 := sk_ge (t := t) (N := N) (a := a + 1)
        refine s_ifeq (pc := 35) (tgt := 76) dX4_readSum_35 rfl (fun h35 => absurd h35 (by decide)) (fun h35 => ?_)
        refine s_aload_n (pc := 38) (i := 1) dX4_readSum_38 rfl rfl ?_
        refine m_v0 (pc := 39) dX4_readSum_39 lk_X4_62 ok_X10_sign (rcO o_2 (by decide) rfl) rfl rfl (c_X10_sign hx hlt (kt_s ?_))
        refine s_istore (pc := 42) (i := 4) dX4_readSum_42 (Nat.le_of_ble_eq_true rfl) ?_
        dsimp only [List.set, List.filter]
        refine s_aload_n (pc := 44) (i := 1) dX4_readSum_44 rfl rfl ?_
        refine m_v0 (pc := 45) dX4_readSum_45 lk_X4_66 ok_X10_step (rcO o_2 (by decide) rfl) rfl rfl (c_X10_step hx hlt (kt_v ?_))
        refine s_aload_n (pc := 48) (i := 0) dX4_readSum_48 rfl rfl ?_
        refine s_aload_n (pc := 49) (i := 1) dX4_readSum_49 rfl rfl ?_
        refine s_iload_n (pc := 50) (i := 2) dX4_readSum_50 rfl rfl ?_
        refine m_v2 (pc := 51) dX4_readSum_51 lk_X4_55 ok_X4_readProduct (rcO o_18 (by decide) rfl) rfl rfl (hU _ _ _ _ _ _ _ _ _ _ _ _ hx hk hN hL (by omega) (fun e a1 wf1 wt1 I1 q1 q2 => kt_s ?_) (fun p1 c2 I1 wf1 wt1 q1 q2 q3 => kt_s ?_))
        · rw [q1] at hb
          refine s_ifne (pc := 54) (tgt := 59) dX4_readSum_54 rfl (fun h54 => absurd h54 (by decide)) (fun h54 => ?_)
          refine m_ic (pc := 57) (v := 0) dX4_readSum_57 rfl ?_
          refine s_ireturn (pc := 58) dX4_readSum_58 rfl rfl ?_
          exact hb e a1 wf1 wt1 I1 rfl q2
        · rw [q1] at hb hg
          simp only [] at hb hg
          have g1 := hG _ _ _ _ hk q1
          have hx1 := tx_f hx q2
          refine s_ifne (pc := 54) (tgt := 59) dX4_readSum_54 rfl (fun h54 => ?_) (fun h54 => absurd h54 (by decide))
          refine s_aload_n (pc := 59) (i := 0) dX4_readSum_59 rfl rfl ?_
          refine m_si (pc := 60) (v := 2000) dX4_readSum_60 rfl ?_
          refine s_iload (pc := 63) (i := 4) dX4_readSum_63 rfl ?_
          refine s_iadd (pc := 65) dX4_readSum_65 ?_
          refine m_v1 (pc := 66) dX4_readSum_66 lk_X4_28 ok_X4_add (rcO o_18 (by decide) rfl) rfl rfl (c_ad (v := 2000 + t a) hx1 q3 (by omega) (sb_op _ (by omega)) (fun I2 r1 r2 r3 => kt_s ?_))
          refine s_pop (pc := 69) dX4_readSum_69 rfl ?_
          refine m_inc (pc := 70) (v := 1) dX4_readSum_70 rfl rfl ?_
          dsimp only [List.set, List.filter]
          rw [nI_1]
          refine s_goto (pc := 73) (tgt := 13) dX4_readSum_73 rfl ?_
          exact ih (i + 1) I2 p1 wf1 wt1 (c2 ++ [2000 + t a]) _ r2 (by omega) (by omega) (by omega) r3 (by rw [List.length_append, List.length_singleton]; omega) (fun e a' wf' wt' I' z1 z2 => hb e a' wf' wt' I' z1 (fC_t q2 (fC_t r1 z2))) (fun p c3 I' wf' wt' z1 z2 z3 => hg p c3 I' wf' wt' z1 (fC_t q2 (fC_t r1 z2)) z3)
      · have hno : ¬ (a < N ∧ opS (t a) = true) := by
          rintro ⟨z1, z2⟩
          simp only [opS, Bool.or_eq_true, beq_iff_eq] at z2
          omega
        rw [if_neg hno] at hg
        refine s_ifeq (pc := 35) (tgt := 76) dX4_readSum_35 rfl (fun h35 => ?_) (fun h35 => absurd h35 (by decide))
        refine m_ic (pc := 76) (v := 1) dX4_readSum_76 rfl ?_
        refine s_ireturn (pc := 77) dX4_readSum_77 rfl rfl ?_
        exact hg a cs I wf wt rfl fC_r hL
theorem c_X4_readSum {k : Nat} {U : Nat → List Nat → lT} {op : Int32} (hU : cRd g mX4_readProduct (k + 6) t N U op) (hG : gU N U) : cRd g mX4_readSum (k + 7) t N (lF t N U opS) op := by
  intro d I J n w Q a wf wt fk fp cs hx ha hN hL hl hb hg
  show Rn g (d + (k + 7)) mX4_readSum 0 [.ref 18, .ref 2, .int op, .retAddr 0, .retAddr 0] [] [] (Z (tp I a wf wt fk fp) J n w) Q
  refine s_aload_n (pc := 0) (i := 0) dX4_readSum_0 rfl rfl ?_
  refine s_aload_n (pc := 1) (i := 1) dX4_readSum_1 rfl rfl ?_
  refine s_iload_n (pc := 2) (i := 2) dX4_readSum_2 rfl rfl ?_
  refine m_v2 (pc := 3) dX4_readSum_3 lk_X4_55 ok_X4_readProduct (rcO o_18 (by decide) rfl) rfl rfl (hU _ _ _ _ _ _ _ _ _ _ _ _ hx ha hN hL hl (fun e a1 wf1 wt1 I1 q1 q2 => kt_s ?_) (fun p1 c2 I1 wf1 wt1 q1 q2 q3 => kt_s ?_))
  · refine s_ifne (pc := 6) (tgt := 11) dX4_readSum_6 rfl (fun h6 => absurd h6 (by decide)) (fun h6 => ?_)
    refine m_ic (pc := 9) (v := 0) dX4_readSum_9 rfl ?_
    refine s_ireturn (pc := 10) dX4_readSum_10 rfl rfl ?_
    exact hb e a1 wf1 wt1 I1 (by unfold lF; rw [q1]) q2
  · refine s_ifne (pc := 6) (tgt := 11) dX4_readSum_6 rfl (fun h6 => ?_) (fun h6 => absurd h6 (by decide))
    refine m_ic (pc := 11) (v := 0) dX4_readSum_11 rfl ?_
    refine s_istore_n (pc := 12) (i := 3) dX4_readSum_12 rfl (Nat.le_of_ble_eq_true rfl) ?_
    dsimp only [List.set, List.filter]
    have g1 := hG _ _ _ _ ha q1
    exact readSum_lp hU hG hN 150 0 I1 p1 wf1 wt1 c2 _ (tx_f hx q2) g1.2.1 (by omega) (by omega) q3 (by omega) (fun e a' wf' wt' I' z1 z2 => hb e a' wf' wt' I' (by unfold lF; rw [q1]; exact z1) (fC_t q2 z2)) (fun p c3 I' wf' wt' z1 z2 z3 => hg p c3 I' wf' wt' (by unfold lF; rw [q1]; exact z1) (fC_t q2 z2) z3)
end S
