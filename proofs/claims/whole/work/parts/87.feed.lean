section S
variable {g : aG} {d : Nat} {I : Nat → Nat → Int32} {J : Nat → Nat → Int64} {n w : Nat} {Q : aO → aS → Prop}
variable {σ : aS} {t : Nat → Nat} {T k : Nat}
def byf (x : Int32) (s : Nat) : Nat := (x >>> (nI s &&& 31) &&& 255).toBitVec.toNat
theorem by_1 (x : Int32) (s : Nat) : x >>> (nI s &&& 31) &&& 255 = nI (byf x s) ∧ byf x s < 256 := by
  obtain ⟨j, hj, e⟩ := pk_andE (x >>> (nI s &&& 31)) (m := 255) 8 (by decide)
  unfold byf
  rw [e, pk_tn (by omega)]
  exact ⟨rfl, hj⟩
theorem by_2 (x : Int32) {s : Nat} (hs : s ≤ 24) : (x.toUInt32 >>> ((nI s).toUInt32 &&& Int32.toUInt32 31)).toInt32.toInt8.toInt32 = sb_b (byf x s) := by
  unfold sb_b
  rw [← (by_1 x s).1, fa_byte_low, ← fa_byte_low ((x.toUInt32 >>> ((nI s).toUInt32 &&& Int32.toUInt32 31)).toInt32), ← fa_byte_low (x >>> (nI s &&& 31))]
  congr 2
  refine b_ext (fun i hi => ?_)
  rw [b_and, b_and, b_ushr s (by omega), b_sshr s (by omega) x hi, b_255]
  by_cases z : i < 8
  · rw [if_pos (by omega)]
  · simp [z]
def ag (a b c d e : Int32) (i : Nat) : Int32 := if i = 0 then a else if i = 1 then b else if i = 2 then c else if i = 3 then d else e
def fdb (f : Nat → Int32) (j : Nat) : Nat := byf (f (j / 4)) (24 - 8 * (j % 4))
theorem fdb_lt (f : Nat → Int32) (j : Nat) : fdb f j < 256 := (by_1 _ _).2
theorem c_X10_put {x : Int32} (hk : I 2 1 = nI k) (hk2 : k + 4 ≤ 600) (hq : ∀ I', (∀ y j, (y ≠ 2 ∨ j ≠ 1) → (y ≠ 3 ∨ j < k ∨ k + 4 ≤ j) → I' y j = I y j) → I' 2 1 = nI (k + 4) → (∀ i, i < 4 → I' 3 (k + i) = sb_b (byf x (24 - 8 * i))) → Q (.inl none) (Z I' J n w)) : Cn g (d + 0) mX10_put [.ref 2, .int x] (Z I J n w) Q := by
  show Rn g (d + 0) mX10_put 0 [.ref 2, .int x, .retAddr 0] [] [] (Z I J n w) Q
  refine m_bi (pc := 0) (v := 24) dX10_put_0 rfl ?_
  refine s_istore_n (pc := 2) (i := 2) dX10_put_2 rfl (Nat.le_of_ble_eq_true rfl) ?_
  dsimp only [List.set, List.filter]
  refine put_it (k := k) (s := 24) hk (by omega) (by decide) ?_
  refine put_it (k := k + 1) (s := 24 + -8) up_s (by omega) (by decide) ?_
  refine put_it (k := k + 1 + 1) (s := 24 + -8 + -8) up_s (by omega) (by decide) ?_
  refine put_it (k := k + 1 + 1 + 1) (s := 24 + -8 + -8 + -8) up_s (by omega) (by decide) ?_
  refine s_iload_n (pc := 3) (i := 2) dX10_put_3 rfl rfl ?_
  refine s_iflt (pc := 4) (tgt := 46) dX10_put_4 rfl (fun h4 => ?_) (fun h4 => absurd h4 (by decide))
  refine s_return (pc := 46) dX10_put_46 rfl ?_
  refine hq _ (fun y j z1 z2 => ?_) up_s (fun i hi => ?_)
  · rw [up_n3 z1, up_n3 (by omega), up_n3 z1, up_n3 (by omega), up_n3 z1, up_n3 (by omega), up_n3 z1, up_n3 (by omega)]
  · rcases (show i = 0 ∨ i = 1 ∨ i = 2 ∨ i = 3 by omega) with e | e | e | e
    · subst e; rw [up_a (by decide), up_k (by omega), up_a (by decide), up_k (by omega), up_a (by decide), up_k (by omega), up_a (by decide), Nat.add_zero, up_s]; exact by_2 x (s := 24) (by decide)
    · subst e; rw [up_a (by decide), up_k (by omega), up_a (by decide), up_k (by omega), up_a (by decide), up_s]; exact by_2 x (s := 16) (by decide)
    · subst e; rw [up_a (by decide), up_k (by omega), up_a (by decide), show k + 2 = k + 1 + 1 from rfl, up_s]; exact by_2 x (s := 8) (by decide)
    · subst e; rw [up_a (by decide), show k + 3 = k + 1 + 1 + 1 from rfl, up_s]; exact by_2 x (s := 0) (by decide)
theorem c_X11_feed {x y z u v : Int32} (hT : I 2 1 = nI T) (hT6 : T ≤ 600) (h1 : ¬ T + 20 ≤ 600 → Q (.inl (some (.int (-1)))) (Z I J n w)) (h2 : T + 20 ≤ 600 → ∀ I', (∀ y j, (y ≠ 2 ∨ j ≠ 1) → (y ≠ 3 ∨ j < T) → I' y j = I y j) → I' 2 1 = nI (T + 20) → (∀ j, j < 20 → I' 3 (T + j) = sb_b (fdb (ag x y z u v) j)) → Q (.inl (some (.int (nI (T + 20))))) (Z I' J n w)) : Cn g (d + 1) mX11_feed [.ref 1, .int x, .int y, .int z, .int u, .int v] (Z I J n w) Q := by
  show Rn g (d + 1) mX11_feed 0 [.ref 1, .int x, .int y, .int z, .int u, .int v] [] [] (Z I J n w) Q
  refine s_aload_n (pc := 0) (i := 0) dX11_feed_0 rfl rfl ?_
  refine m_gr (pc := 1) dX11_feed_1 ff_X11_10 rfl o_1 r_1_0 ?_
  refine m_gi (pc := 4) dX11_feed_4 ff_X11_103 rfl o_2 ?_
  refine m_nm (v' := nI T) (hT) ?_
  refine m_bi (pc := 7) (v := 20) dX11_feed_7 rfl ?_
  refine s_iadd (pc := 9) dX11_feed_9 ?_
  refine m_nm (v' := nI (T + 20)) (nI_add T 20) ?_
  refine m_si (pc := 10) (v := 600) dX11_feed_10 rfl ?_
  refine s_icle (pc := 13) (tgt := 18) dX11_feed_13 rfl (fun h13 => ?_) (fun h13 => ?_)
  · have h13 : (T + 20) ≤ 600 := (nI_leI (a := T + 20) (b := 600) (by omega) (by omega)).mp h13
    refine s_aload_n (pc := 18) (i := 0) dX11_feed_18 rfl rfl ?_
    refine m_gr (pc := 19) dX11_feed_19 ff_X11_10 rfl o_1 r_1_0 ?_
    refine s_iload_n (pc := 22) (i := 1) dX11_feed_22 rfl rfl ?_
    refine m_v1 (pc := 23) dX11_feed_23 lk_X11_107 ok_X10_put (rcO o_2 (by decide) rfl) rfl rfl (c_X10_put (k := T + 0) hT (by omega) (fun I1 f1 s1 b1 => kt_v ?_))
    · refine s_aload_n (pc := 26) (i := 0) dX11_feed_26 rfl rfl ?_
      refine m_gr (pc := 27) dX11_feed_27 ff_X11_10 rfl o_1 r_1_0 ?_
      refine s_iload_n (pc := 30) (i := 2) dX11_feed_30 rfl rfl ?_
      refine m_v1 (pc := 31) dX11_feed_31 lk_X11_107 ok_X10_put (rcO o_2 (by decide) rfl) rfl rfl (c_X10_put (k := T + 4) s1 (by omega) (fun I2 f2 s2 b2 => kt_v ?_))
      · refine s_aload_n (pc := 34) (i := 0) dX11_feed_34 rfl rfl ?_
        refine m_gr (pc := 35) dX11_feed_35 ff_X11_10 rfl o_1 r_1_0 ?_
        refine s_iload_n (pc := 38) (i := 3) dX11_feed_38 rfl rfl ?_
        refine m_v1 (pc := 39) dX11_feed_39 lk_X11_107 ok_X10_put (rcO o_2 (by decide) rfl) rfl rfl (c_X10_put (k := T + 8) s2 (by omega) (fun I3 f3 s3 b3 => kt_v ?_))
        · refine s_aload_n (pc := 42) (i := 0) dX11_feed_42 rfl rfl ?_
          refine m_gr (pc := 43) dX11_feed_43 ff_X11_10 rfl o_1 r_1_0 ?_
          refine s_iload (pc := 46) (i := 4) dX11_feed_46 rfl ?_
          refine m_v1 (pc := 48) dX11_feed_48 lk_X11_107 ok_X10_put (rcO o_2 (by decide) rfl) rfl rfl (c_X10_put (k := T + 12) s3 (by omega) (fun I4 f4 s4 b4 => kt_v ?_))
          · refine s_aload_n (pc := 51) (i := 0) dX11_feed_51 rfl rfl ?_
            refine m_gr (pc := 52) dX11_feed_52 ff_X11_10 rfl o_1 r_1_0 ?_
            refine s_iload (pc := 55) (i := 5) dX11_feed_55 rfl ?_
            refine m_v1 (pc := 57) dX11_feed_57 lk_X11_107 ok_X10_put (rcO o_2 (by decide) rfl) rfl rfl (c_X10_put (k := T + 16) s4 (by omega) (fun I5 f5 s5 b5 => kt_v ?_))
            · refine s_aload_n (pc := 60) (i := 0) dX11_feed_60 rfl rfl ?_
              refine m_gr (pc := 61) dX11_feed_61 ff_X11_10 rfl o_1 r_1_0 ?_
              refine m_gi (pc := 64) dX11_feed_64 ff_X11_103 rfl o_2 ?_
              refine m_nm (v' := nI (T + 20)) (s5) ?_
              refine s_ireturn (pc := 67) dX11_feed_67 rfl rfl ?_
              refine h2 (by omega) I5 (fun y j z1 z2 => ?_) s5 (fun j hj => ?_)
              · rw [f5 y j z1 (by omega), f4 y j z1 (by omega), f3 y j z1 (by omega), f2 y j z1 (by omega), f1 y j z1 (by omega)]
              · have hm : j % 4 < 4 := Nat.mod_lt _ (by decide)
                rcases (show j / 4 = 0 ∨ j / 4 = 1 ∨ j / 4 = 2 ∨ j / 4 = 3 ∨ j / 4 = 4 by omega) with e | e | e | e | e
                · rw [f5 3 (T + j) (by omega) (by omega), f4 3 (T + j) (by omega) (by omega), f3 3 (T + j) (by omega) (by omega), f2 3 (T + j) (by omega) (by omega)]; unfold fdb; rw [e, show T + j = T + 0 + j % 4 by omega]; exact b1 (j % 4) hm
                · rw [f5 3 (T + j) (by omega) (by omega), f4 3 (T + j) (by omega) (by omega), f3 3 (T + j) (by omega) (by omega)]; unfold fdb; rw [e, show T + j = T + 4 + j % 4 by omega]; exact b2 (j % 4) hm
                · rw [f5 3 (T + j) (by omega) (by omega), f4 3 (T + j) (by omega) (by omega)]; unfold fdb; rw [e, show T + j = T + 8 + j % 4 by omega]; exact b3 (j % 4) hm
                · rw [f5 3 (T + j) (by omega) (by omega)]; unfold fdb; rw [e, show T + j = T + 12 + j % 4 by omega]; exact b4 (j % 4) hm
                · unfold fdb; rw [e, show T + j = T + 16 + j % 4 by omega]; exact b5 (j % 4) hm
  · have h13 : ¬ (T + 20) ≤ 600 := fun z => h13 ((nI_leI (a := T + 20) (b := 600) (by omega) (by omega)).mpr z)
    refine m_ic (pc := 16) (v := -1) dX11_feed_16 rfl ?_
    refine s_ireturn (pc := 17) dX11_feed_17 rfl rfl ?_
    exact h1 h13
theorem mfe_lp {x y z u v : Int32} (hT6 : T + 20 ≤ 600) : ∀ f i I1 (v7 : Value), i + f = 20 → (∀ y j, (y ≠ 534 ∨ (j ≠ 0 ∧ j ≠ 2)) → (y ≠ 536 ∨ j < T) → y < 1000 → I1 y j = I y j) → I1 534 2 = nI (T + i) → (∀ j, j < i → I1 536 (T + j) = nI (fdb (ag x y z u v) j)) → (∀ I' , (∀ y j, (y ≠ 534 ∨ (j ≠ 0 ∧ j ≠ 2)) → (y ≠ 536 ∨ j < T) → y < 1000 → I' y j = I y j) → I' 534 2 = nI (T + 20) → (∀ j, j < 20 → I' 536 (T + j) = nI (fdb (ag x y z u v) j)) → I' 534 0 = I1 534 0 → Q (.inl (some (.int (nI (T + 20))))) (Z I' J n w)) → Rn g (d + 0) mX12_feed 23 [.ref 534, .int x, .int y, .int z, .int u, .int v, .int (nI i), v7] [] [] (Z I1 J n w) Q := by
  intro f
  induction f with
  | zero =>
    intro i I1 v7 hi hF h2 hB hq
    have e : 20 = i := by omega
    subst e
    refine s_iload (pc := 23) (i := 6) dX12_feed_23 rfl ?_
    refine m_bi (pc := 25) (v := 20) dX12_feed_25 rfl ?_
    refine s_icge (pc := 27) (tgt := 120) dX12_feed_27 rfl (fun h27 => ?_) (fun h27 => absurd (nI_le (a := 20) (b := 20) (by omega) (by omega)) h27)
    refine s_aload_n (pc := 120) (i := 0) dX12_feed_120 rfl rfl ?_
    refine m_gi (pc := 121) dX12_feed_121 ff_X12_99 rfl o_534 ?_
    refine m_nm (v' := nI (T + 20)) (h2) ?_
    refine s_ireturn (pc := 124) dX12_feed_124 rfl rfl ?_
    exact hq I1 hF h2 hB rfl
  | succ f ih =>
    intro i I1 v7 hi hF h2 hB hq
    refine s_iload (pc := 23) (i := 6) dX12_feed_23 rfl ?_
    refine m_bi (pc := 25) (v := 20) dX12_feed_25 rfl ?_
    refine s_icge (pc := 27) (tgt := 120) dX12_feed_27 rfl (fun h27 => absurd h27 (nI_ge (a := i) (b := 20) (by omega) (by omega))) (fun h27 => ?_)
    refine s_iload (pc := 30) (i := 6) dX12_feed_30 rfl ?_
    refine m_ic (pc := 32) (v := 4) dX12_feed_32 rfl ?_
    refine s_icge (pc := 33) (tgt := 40) dX12_feed_33 rfl (fun h33 => ?_) (fun h33 => ?_)
    · have h33 : 4 ≤ i := (nI_leI (a := 4) (b := i) (by omega) (by omega)).mp h33
      refine s_iload (pc := 40) (i := 6) dX12_feed_40 rfl ?_
      refine m_bi (pc := 42) (v := 8) dX12_feed_42 rfl ?_
      refine s_icge (pc := 44) (tgt := 51) dX12_feed_44 rfl (fun h44 => ?_) (fun h44 => ?_)
      · have h44 : 8 ≤ i := (nI_leI (a := 8) (b := i) (by omega) (by omega)).mp h44
        refine s_iload (pc := 51) (i := 6) dX12_feed_51 rfl ?_
        refine m_bi (pc := 53) (v := 12) dX12_feed_53 rfl ?_
        refine s_icge (pc := 55) (tgt := 62) dX12_feed_55 rfl (fun h55 => ?_) (fun h55 => ?_)
        · have h55 : 12 ≤ i := (nI_leI (a := 12) (b := i) (by omega) (by omega)).mp h55
          refine s_iload (pc := 62) (i := 6) dX12_feed_62 rfl ?_
          refine m_bi (pc := 64) (v := 16) dX12_feed_64 rfl ?_
          refine s_icge (pc := 66) (tgt := 74) dX12_feed_66 rfl (fun h66 => ?_) (fun h66 => ?_)
          · have h66 : 16 ≤ i := (nI_leI (a := 16) (b := i) (by omega) (by omega)).mp h66
            refine s_iload (pc := 74) (i := 5) dX12_feed_74 rfl ?_
            refine s_istore (pc := 76) (i := 7) dX12_feed_76 (Nat.le_of_ble_eq_true rfl) ?_
            dsimp only [List.set, List.filter]
            refine s_aload_n (pc := 78) (i := 0) dX12_feed_78 rfl rfl ?_
            refine m_gr (pc := 79) dX12_feed_79 ff_X12_20 rfl o_534 r_534_9 ?_
            refine s_aload_n (pc := 82) (i := 0) dX12_feed_82 rfl rfl ?_
            refine m_gi (pc := 83) dX12_feed_83 ff_X12_99 rfl o_534 ?_
            refine m_nm (v' := nI (T + i)) (h2) ?_
            refine s_iload (pc := 86) (i := 7) dX12_feed_86 rfl ?_
            refine m_bi (pc := 88) (v := 24) dX12_feed_88 rfl ?_
            refine m_bi (pc := 90) (v := 8) dX12_feed_90 rfl ?_
            refine s_iload (pc := 92) (i := 6) dX12_feed_92 rfl ?_
            refine m_ic (pc := 94) (v := 4) dX12_feed_94 rfl ?_
            refine s_irem (pc := 95) dX12_feed_95 (by decide) ?_
            refine m_nm (v' := nI (i % 4)) (pk_rem (d := 4) (by omega) (by decide) (by decide)) ?_
            refine s_imul (pc := 96) dX12_feed_96 ?_
            refine m_nm (v' := nI (8 * (i % 4))) (pk_mul 8 (i % 4)) ?_
            refine s_isub (pc := 97) dX12_feed_97 ?_
            refine m_nm (v' := nI (24 - 8 * (i % 4))) ((show nI 24 - _ = _ from pk_sub (by omega))) ?_
            refine s_ishr (pc := 98) dX12_feed_98 ?_
            refine m_si (pc := 99) (v := 255) dX12_feed_99 rfl ?_
            refine s_iand (pc := 102) dX12_feed_102 ?_
            rw [(by_1 _ _).1, show byf v (24 - 8 * (i % 4)) = fdb (ag x y z u v) i from by unfold fdb; rw [show i / 4 = 4 by omega]; rfl]
            refine m_is (pc := 103) dX12_feed_103 a_536 (vp_in_nI (n := T + i) (by omega) (by decide)) ?_
            rw [nI_clamp (n := T + i) (by omega)]
            refine s_aload_n (pc := 104) (i := 0) dX12_feed_104 rfl rfl ?_
            refine s_dup (pc := 105) dX12_feed_105 rfl ?_
            refine m_gi (pc := 106) dX12_feed_106 ff_X12_99 rfl o_534 ?_
            refine m_nm (v' := nI (T + i)) (by rw [up_a (by decide)]; exact h2) ?_
            refine m_ic (pc := 109) (v := 1) dX12_feed_109 rfl ?_
            refine s_iadd (pc := 110) dX12_feed_110 ?_
            refine m_nm (v' := nI ((T + i) + 1)) (nI_add (T + i) 1) ?_
            refine m_pi (pc := 111) dX12_feed_111 ff_X12_99 rfl rfl o_534 ?_
            refine m_inc (pc := 114) (v := 1) dX12_feed_114 rfl rfl ?_
            dsimp only [List.set, List.filter]
            rw [nI_1]
            refine s_goto (pc := 117) (tgt := 23) dX12_feed_117 rfl ?_
            refine ih (i + 1) _ (.int v) (by omega) (fun y j z1 z2 z3 => by rw [up_n3 (by omega), up_n3 (by omega)]; exact hF y j z1 z2 z3) (by rw [up_s]; congr 1) (fun j hj => ?_) hq
            by_cases e : j = i
            · subst e; rw [up_a (by decide), up_s]
            · rw [up_a (by decide), up_k (by omega)]; exact hB j (by omega)
          · have h66 : ¬ 16 ≤ i := fun z => h66 ((nI_leI (a := 16) (b := i) (by omega) (by omega)).mpr z)
            refine s_iload (pc := 69) (i := 4) dX12_feed_69 rfl ?_
            refine s_goto (pc := 71) (tgt := 76) dX12_feed_71 rfl ?_
            refine s_istore (pc := 76) (i := 7) dX12_feed_76 (Nat.le_of_ble_eq_true rfl) ?_
            dsimp only [List.set, List.filter]
            refine s_aload_n (pc := 78) (i := 0) dX12_feed_78 rfl rfl ?_
            refine m_gr (pc := 79) dX12_feed_79 ff_X12_20 rfl o_534 r_534_9 ?_
            refine s_aload_n (pc := 82) (i := 0) dX12_feed_82 rfl rfl ?_
            refine m_gi (pc := 83) dX12_feed_83 ff_X12_99 rfl o_534 ?_
            refine m_nm (v' := nI (T + i)) (h2) ?_
            refine s_iload (pc := 86) (i := 7) dX12_feed_86 rfl ?_
            refine m_bi (pc := 88) (v := 24) dX12_feed_88 rfl ?_
            refine m_bi (pc := 90) (v := 8) dX12_feed_90 rfl ?_
            refine s_iload (pc := 92) (i := 6) dX12_feed_92 rfl ?_
            refine m_ic (pc := 94) (v := 4) dX12_feed_94 rfl ?_
            refine s_irem (pc := 95) dX12_feed_95 (by decide) ?_
            refine m_nm (v' := nI (i % 4)) (pk_rem (d := 4) (by omega) (by decide) (by decide)) ?_
            refine s_imul (pc := 96) dX12_feed_96 ?_
            refine m_nm (v' := nI (8 * (i % 4))) (pk_mul 8 (i % 4)) ?_
            refine s_isub (pc := 97) dX12_feed_97 ?_
            refine m_nm (v' := nI (24 - 8 * (i % 4))) ((show nI 24 - _ = _ from pk_sub (by omega))) ?_
            refine s_ishr (pc := 98) dX12_feed_98 ?_
            refine m_si (pc := 99) (v := 255) dX12_feed_99 rfl ?_
            refine s_iand (pc := 102) dX12_feed_102 ?_
            rw [(by_1 _ _).1, show byf u (24 - 8 * (i % 4)) = fdb (ag x y z u v) i from by unfold fdb; rw [show i / 4 = 3 by omega]; rfl]
            refine m_is (pc := 103) dX12_feed_103 a_536 (vp_in_nI (n := T + i) (by omega) (by decide)) ?_
            rw [nI_clamp (n := T + i) (by omega)]
            refine s_aload_n (pc := 104) (i := 0) dX12_feed_104 rfl rfl ?_
            refine s_dup (pc := 105) dX12_feed_105 rfl ?_
            refine m_gi (pc := 106) dX12_feed_106 ff_X12_99 rfl o_534 ?_
            refine m_nm (v' := nI (T + i)) (by rw [up_a (by decide)]; exact h2) ?_
            refine m_ic (pc := 109) (v := 1) dX12_feed_109 rfl ?_
            refine s_iadd (pc := 110) dX12_feed_110 ?_
            refine m_nm (v' := nI ((T + i) + 1)) (nI_add (T + i) 1) ?_
            refine m_pi (pc := 111) dX12_feed_111 ff_X12_99 rfl rfl o_534 ?_
            refine m_inc (pc := 114) (v := 1) dX12_feed_114 rfl rfl ?_
            dsimp only [List.set, List.filter]
            rw [nI_1]
            refine s_goto (pc := 117) (tgt := 23) dX12_feed_117 rfl ?_
            refine ih (i + 1) _ (.int u) (by omega) (fun y j z1 z2 z3 => by rw [up_n3 (by omega), up_n3 (by omega)]; exact hF y j z1 z2 z3) (by rw [up_s]; congr 1) (fun j hj => ?_) hq
            by_cases e : j = i
            · subst e; rw [up_a (by decide), up_s]
            · rw [up_a (by decide), up_k (by omega)]; exact hB j (by omega)
        · have h55 : ¬ 12 ≤ i := fun z => h55 ((nI_leI (a := 12) (b := i) (by omega) (by omega)).mpr z)
          refine s_iload_n (pc := 58) (i := 3) dX12_feed_58 rfl rfl ?_
          refine s_goto (pc := 59) (tgt := 76) dX12_feed_59 rfl ?_
          refine s_istore (pc := 76) (i := 7) dX12_feed_76 (Nat.le_of_ble_eq_true rfl) ?_
          dsimp only [List.set, List.filter]
          refine s_aload_n (pc := 78) (i := 0) dX12_feed_78 rfl rfl ?_
          refine m_gr (pc := 79) dX12_feed_79 ff_X12_20 rfl o_534 r_534_9 ?_
          refine s_aload_n (pc := 82) (i := 0) dX12_feed_82 rfl rfl ?_
          refine m_gi (pc := 83) dX12_feed_83 ff_X12_99 rfl o_534 ?_
          refine m_nm (v' := nI (T + i)) (h2) ?_
          refine s_iload (pc := 86) (i := 7) dX12_feed_86 rfl ?_
          refine m_bi (pc := 88) (v := 24) dX12_feed_88 rfl ?_
          refine m_bi (pc := 90) (v := 8) dX12_feed_90 rfl ?_
          refine s_iload (pc := 92) (i := 6) dX12_feed_92 rfl ?_
          refine m_ic (pc := 94) (v := 4) dX12_feed_94 rfl ?_
          refine s_irem (pc := 95) dX12_feed_95 (by decide) ?_
          refine m_nm (v' := nI (i % 4)) (pk_rem (d := 4) (by omega) (by decide) (by decide)) ?_
          refine s_imul (pc := 96) dX12_feed_96 ?_
          refine m_nm (v' := nI (8 * (i % 4))) (pk_mul 8 (i % 4)) ?_
          refine s_isub (pc := 97) dX12_feed_97 ?_
          refine m_nm (v' := nI (24 - 8 * (i % 4))) ((show nI 24 - _ = _ from pk_sub (by omega))) ?_
          refine s_ishr (pc := 98) dX12_feed_98 ?_
          refine m_si (pc := 99) (v := 255) dX12_feed_99 rfl ?_
          refine s_iand (pc := 102) dX12_feed_102 ?_
          rw [(by_1 _ _).1, show byf z (24 - 8 * (i % 4)) = fdb (ag x y z u v) i from by unfold fdb; rw [show i / 4 = 2 by omega]; rfl]
          refine m_is (pc := 103) dX12_feed_103 a_536 (vp_in_nI (n := T + i) (by omega) (by decide)) ?_
          rw [nI_clamp (n := T + i) (by omega)]
          refine s_aload_n (pc := 104) (i := 0) dX12_feed_104 rfl rfl ?_
          refine s_dup (pc := 105) dX12_feed_105 rfl ?_
          refine m_gi (pc := 106) dX12_feed_106 ff_X12_99 rfl o_534 ?_
          refine m_nm (v' := nI (T + i)) (by rw [up_a (by decide)]; exact h2) ?_
          refine m_ic (pc := 109) (v := 1) dX12_feed_109 rfl ?_
          refine s_iadd (pc := 110) dX12_feed_110 ?_
          refine m_nm (v' := nI ((T + i) + 1)) (nI_add (T + i) 1) ?_
          refine m_pi (pc := 111) dX12_feed_111 ff_X12_99 rfl rfl o_534 ?_
          refine m_inc (pc := 114) (v := 1) dX12_feed_114 rfl rfl ?_
          dsimp only [List.set, List.filter]
          rw [nI_1]
          refine s_goto (pc := 117) (tgt := 23) dX12_feed_117 rfl ?_
          refine ih (i + 1) _ (.int z) (by omega) (fun y j z1 z2 z3 => by rw [up_n3 (by omega), up_n3 (by omega)]; exact hF y j z1 z2 z3) (by rw [up_s]; congr 1) (fun j hj => ?_) hq
          by_cases e : j = i
          · subst e; rw [up_a (by decide), up_s]
          · rw [up_a (by decide), up_k (by omega)]; exact hB j (by omega)
      · have h44 : ¬ 8 ≤ i := fun z => h44 ((nI_leI (a := 8) (b := i) (by omega) (by omega)).mpr z)
        refine s_iload_n (pc := 47) (i := 2) dX12_feed_47 rfl rfl ?_
        refine s_goto (pc := 48) (tgt := 76) dX12_feed_48 rfl ?_
        refine s_istore (pc := 76) (i := 7) dX12_feed_76 (Nat.le_of_ble_eq_true rfl) ?_
        dsimp only [List.set, List.filter]
        refine s_aload_n (pc := 78) (i := 0) dX12_feed_78 rfl rfl ?_
        refine m_gr (pc := 79) dX12_feed_79 ff_X12_20 rfl o_534 r_534_9 ?_
        refine s_aload_n (pc := 82) (i := 0) dX12_feed_82 rfl rfl ?_
        refine m_gi (pc := 83) dX12_feed_83 ff_X12_99 rfl o_534 ?_
        refine m_nm (v' := nI (T + i)) (h2) ?_
        refine s_iload (pc := 86) (i := 7) dX12_feed_86 rfl ?_
        refine m_bi (pc := 88) (v := 24) dX12_feed_88 rfl ?_
        refine m_bi (pc := 90) (v := 8) dX12_feed_90 rfl ?_
        refine s_iload (pc := 92) (i := 6) dX12_feed_92 rfl ?_
        refine m_ic (pc := 94) (v := 4) dX12_feed_94 rfl ?_
        refine s_irem (pc := 95) dX12_feed_95 (by decide) ?_
        refine m_nm (v' := nI (i % 4)) (pk_rem (d := 4) (by omega) (by decide) (by decide)) ?_
        refine s_imul (pc := 96) dX12_feed_96 ?_
        refine m_nm (v' := nI (8 * (i % 4))) (pk_mul 8 (i % 4)) ?_
        refine s_isub (pc := 97) dX12_feed_97 ?_
        refine m_nm (v' := nI (24 - 8 * (i % 4))) ((show nI 24 - _ = _ from pk_sub (by omega))) ?_
        refine s_ishr (pc := 98) dX12_feed_98 ?_
        refine m_si (pc := 99) (v := 255) dX12_feed_99 rfl ?_
        refine s_iand (pc := 102) dX12_feed_102 ?_
        rw [(by_1 _ _).1, show byf y (24 - 8 * (i % 4)) = fdb (ag x y z u v) i from by unfold fdb; rw [show i / 4 = 1 by omega]; rfl]
        refine m_is (pc := 103) dX12_feed_103 a_536 (vp_in_nI (n := T + i) (by omega) (by decide)) ?_
        rw [nI_clamp (n := T + i) (by omega)]
        refine s_aload_n (pc := 104) (i := 0) dX12_feed_104 rfl rfl ?_
        refine s_dup (pc := 105) dX12_feed_105 rfl ?_
        refine m_gi (pc := 106) dX12_feed_106 ff_X12_99 rfl o_534 ?_
        refine m_nm (v' := nI (T + i)) (by rw [up_a (by decide)]; exact h2) ?_
        refine m_ic (pc := 109) (v := 1) dX12_feed_109 rfl ?_
        refine s_iadd (pc := 110) dX12_feed_110 ?_
        refine m_nm (v' := nI ((T + i) + 1)) (nI_add (T + i) 1) ?_
        refine m_pi (pc := 111) dX12_feed_111 ff_X12_99 rfl rfl o_534 ?_
        refine m_inc (pc := 114) (v := 1) dX12_feed_114 rfl rfl ?_
        dsimp only [List.set, List.filter]
        rw [nI_1]
        refine s_goto (pc := 117) (tgt := 23) dX12_feed_117 rfl ?_
        refine ih (i + 1) _ (.int y) (by omega) (fun y j z1 z2 z3 => by rw [up_n3 (by omega), up_n3 (by omega)]; exact hF y j z1 z2 z3) (by rw [up_s]; congr 1) (fun j hj => ?_) hq
        by_cases e : j = i
        · subst e; rw [up_a (by decide), up_s]
        · rw [up_a (by decide), up_k (by omega)]; exact hB j (by omega)
    · have h33 : ¬ 4 ≤ i := fun z => h33 ((nI_leI (a := 4) (b := i) (by omega) (by omega)).mpr z)
      refine s_iload_n (pc := 36) (i := 1) dX12_feed_36 rfl rfl ?_
      refine s_goto (pc := 37) (tgt := 76) dX12_feed_37 rfl ?_
      refine s_istore (pc := 76) (i := 7) dX12_feed_76 (Nat.le_of_ble_eq_true rfl) ?_
      dsimp only [List.set, List.filter]
      refine s_aload_n (pc := 78) (i := 0) dX12_feed_78 rfl rfl ?_
      refine m_gr (pc := 79) dX12_feed_79 ff_X12_20 rfl o_534 r_534_9 ?_
      refine s_aload_n (pc := 82) (i := 0) dX12_feed_82 rfl rfl ?_
      refine m_gi (pc := 83) dX12_feed_83 ff_X12_99 rfl o_534 ?_
      refine m_nm (v' := nI (T + i)) (h2) ?_
      refine s_iload (pc := 86) (i := 7) dX12_feed_86 rfl ?_
      refine m_bi (pc := 88) (v := 24) dX12_feed_88 rfl ?_
      refine m_bi (pc := 90) (v := 8) dX12_feed_90 rfl ?_
      refine s_iload (pc := 92) (i := 6) dX12_feed_92 rfl ?_
      refine m_ic (pc := 94) (v := 4) dX12_feed_94 rfl ?_
      refine s_irem (pc := 95) dX12_feed_95 (by decide) ?_
      refine m_nm (v' := nI (i % 4)) (pk_rem (d := 4) (by omega) (by decide) (by decide)) ?_
      refine s_imul (pc := 96) dX12_feed_96 ?_
      refine m_nm (v' := nI (8 * (i % 4))) (pk_mul 8 (i % 4)) ?_
      refine s_isub (pc := 97) dX12_feed_97 ?_
      refine m_nm (v' := nI (24 - 8 * (i % 4))) ((show nI 24 - _ = _ from pk_sub (by omega))) ?_
      refine s_ishr (pc := 98) dX12_feed_98 ?_
      refine m_si (pc := 99) (v := 255) dX12_feed_99 rfl ?_
      refine s_iand (pc := 102) dX12_feed_102 ?_
      rw [(by_1 _ _).1, show byf x (24 - 8 * (i % 4)) = fdb (ag x y z u v) i from by unfold fdb; rw [show i / 4 = 0 by omega]; rfl]
      refine m_is (pc := 103) dX12_feed_103 a_536 (vp_in_nI (n := T + i) (by omega) (by decide)) ?_
      rw [nI_clamp (n := T + i) (by omega)]
      refine s_aload_n (pc := 104) (i := 0) dX12_feed_104 rfl rfl ?_
      refine s_dup (pc := 105) dX12_feed_105 rfl ?_
      refine m_gi (pc := 106) dX12_feed_106 ff_X12_99 rfl o_534 ?_
      refine m_nm (v' := nI (T + i)) (by rw [up_a (by decide)]; exact h2) ?_
      refine m_ic (pc := 109) (v := 1) dX12_feed_109 rfl ?_
      refine s_iadd (pc := 110) dX12_feed_110 ?_
      refine m_nm (v' := nI ((T + i) + 1)) (nI_add (T + i) 1) ?_
      refine m_pi (pc := 111) dX12_feed_111 ff_X12_99 rfl rfl o_534 ?_
      refine m_inc (pc := 114) (v := 1) dX12_feed_114 rfl rfl ?_
      dsimp only [List.set, List.filter]
      rw [nI_1]
      refine s_goto (pc := 117) (tgt := 23) dX12_feed_117 rfl ?_
      refine ih (i + 1) _ (.int x) (by omega) (fun y j z1 z2 z3 => by rw [up_n3 (by omega), up_n3 (by omega)]; exact hF y j z1 z2 z3) (by rw [up_s]; congr 1) (fun j hj => ?_) hq
      by_cases e : j = i
      · subst e; rw [up_a (by decide), up_s]
      · rw [up_a (by decide), up_k (by omega)]; exact hB j (by omega)
theorem c_X12_feed {x y z u v : Int32} (hT : I 534 2 = nI T) (hT6 : T ≤ 600) (h1 : ¬ T + 20 ≤ 600 → Q (.inl (some (.int (-1)))) (Z (up I 534 0 0) J n w)) (h2 : T + 20 ≤ 600 → ∀ I', (∀ y j, (y ≠ 534 ∨ (j ≠ 0 ∧ j ≠ 2)) → (y ≠ 536 ∨ j < T) → y < 1000 → I' y j = I y j) → I' 534 2 = nI (T + 20) → (∀ j, j < 20 → I' 536 (T + j) = nI (fdb (ag x y z u v) j)) → Q (.inl (some (.int (nI (T + 20))))) (Z I' J n w)) : Cn g (d + 0) mX12_feed [.ref 534, .int x, .int y, .int z, .int u, .int v] (Z I J n w) Q := by
  show Rn g (d + 0) mX12_feed 0 [.ref 534, .int x, .int y, .int z, .int u, .int v, .retAddr 0, .retAddr 0] [] [] (Z I J n w) Q
  refine s_aload_n (pc := 0) (i := 0) dX12_feed_0 rfl rfl ?_
  refine m_ic (pc := 1) (v := 0) dX12_feed_1 rfl ?_
  refine m_pi (pc := 2) dX12_feed_2 ff_X12_3 rfl rfl o_534 ?_
  refine s_aload_n (pc := 5) (i := 0) dX12_feed_5 rfl rfl ?_
  refine m_gi (pc := 6) dX12_feed_6 ff_X12_99 rfl o_534 ?_
  refine m_nm (v' := nI T) ((up_k (by decide)).trans hT) ?_
  refine m_bi (pc := 9) (v := 20) dX12_feed_9 rfl ?_
  refine s_iadd (pc := 11) dX12_feed_11 ?_
  refine m_nm (v' := nI (T + 20)) (nI_add T 20) ?_
  refine m_si (pc := 12) (v := 600) dX12_feed_12 rfl ?_
  refine s_icle (pc := 15) (tgt := 20) dX12_feed_15 rfl (fun h15 => ?_) (fun h15 => ?_)
  · have h15 : (T + 20) ≤ 600 := (nI_leI (a := T + 20) (b := 600) (by omega) (by omega)).mp h15
    refine m_ic (pc := 20) (v := 0) dX12_feed_20 rfl ?_
    refine s_istore (pc := 21) (i := 6) dX12_feed_21 (Nat.le_of_ble_eq_true rfl) ?_
    dsimp only [List.set, List.filter]
    exact mfe_lp (I := I) h15 20 0 _ _ (by omega) (fun y j z1 z2 z3 => up_n3 (by omega)) ((up_k (by decide)).trans hT) (fun j hj => absurd hj (by omega)) (fun I' a1 a2 a3 _ => h2 h15 I' a1 a2 a3)
  · have h15 : ¬ (T + 20) ≤ 600 := fun z => h15 ((nI_leI (a := T + 20) (b := 600) (by omega) (by omega)).mpr z)
    refine m_ic (pc := 18) (v := -1) dX12_feed_18 rfl ?_
    refine s_ireturn (pc := 19) dX12_feed_19 rfl rfl ?_
    exact h1 h15
end S
