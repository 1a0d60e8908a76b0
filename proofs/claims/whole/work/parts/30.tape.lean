section S
variable {g : aG} {d : Nat} {I : Nat → Nat → Int32} {J : Nat → Nat → Int64} {n w : Nat} {Q : aO → aS → Prop}
theorem up_s {a k : Nat} {v : Int32} : up I a k v a k = v := by simp [up]
theorem up_a {a k x j : Nat} {v : Int32} (h : x ≠ a) : up I a k v x j = I x j := by simp [up, h]
theorem up_k {a k x j : Nat} {v : Int32} (h : j ≠ k) : up I a k v x j = I x j := by simp [up, h]
theorem Rn_cg {y : aM} {pc : Nat} {l l' : List Value} {ll : List (Nat × Int64)} {st : List Value} {σ σ' : aS} (hl : l' = l) (hs : σ' = σ) (h : Rn g d y pc l ll st σ Q) : Rn g d y pc l' ll st σ' Q := by subst hl; subst hs; exact h
theorem Z_cg {I' : Nat → Nat → Int32} (h : I' = I) : Z I' J n w = Z I J n w := by rw [h]
theorem Q_cg {o : aO} {I' : Nat → Nat → Int32} (h : I' = I) (hq : Q o (Z I J n w)) : Q o (Z I' J n w) := by rw [h]; exact hq
theorem put_it {k : Nat} {x s : Int32} (hk : I 2 1 = nI k) (hk2 : k < 600) (hs : ¬ s < 0) (kk : Rn g (d + 0) mX10_put 3 [.ref 2, .int x, .int (s + -8)] [] [] (Z (up (up I 3 k (x.toUInt32 >>> (s.toUInt32 &&& Int32.toUInt32 31)).toInt32.toInt8.toInt32) 2 1 (nI (k + 1))) J n w) Q) : Rn g (d + 0) mX10_put 3 [.ref 2, .int x, .int s] [] [] (Z I J n w) Q := by
  refine s_iload_n (pc := 3) (i := 2) dX10_put_3 rfl rfl ?_
  refine s_iflt (pc := 4) (tgt := 46) dX10_put_4 rfl (fun h4 => absurd h4 (hs)) (fun h4 => ?_)
  refine s_aload_n (pc := 7) (i := 0) dX10_put_7 rfl rfl ?_
  refine m_gi (pc := 8) dX10_put_8 ff_X10_19 rfl o_2 ?_
  refine m_si (pc := 11) (v := 600) dX10_put_11 rfl ?_
  refine s_icge (pc := 14) (tgt := 46) dX10_put_14 rfl (fun h14 => absurd h14 (by rw [hk]; exact nI_ge hk2 (by decide))) (fun h14 => ?_)
  refine s_aload_n (pc := 17) (i := 0) dX10_put_17 rfl rfl ?_
  refine m_gr (pc := 18) dX10_put_18 ff_X10_9 rfl o_2 r_2_0 ?_
  refine s_aload_n (pc := 21) (i := 0) dX10_put_21 rfl rfl ?_
  refine m_gi (pc := 22) dX10_put_22 ff_X10_19 rfl o_2 ?_
  refine s_iload_n (pc := 25) (i := 1) dX10_put_25 rfl rfl ?_
  refine s_iload_n (pc := 26) (i := 2) dX10_put_26 rfl rfl ?_
  refine s_iushr (pc := 27) dX10_put_27 ?_
  refine s_i2b (pc := 28) dX10_put_28 ?_
  refine m_bs (pc := 29) dX10_put_29 a_3 (by rw [hk]; exact vp_in_nI hk2 (by decide)) ?_
  rw [hk]
  refine s_aload_n (pc := 30) (i := 0) dX10_put_30 rfl rfl ?_
  refine s_dup (pc := 31) dX10_put_31 rfl ?_
  refine m_gi (pc := 32) dX10_put_32 ff_X10_19 rfl o_2 ?_
  refine m_ic (pc := 35) (v := 1) dX10_put_35 rfl ?_
  refine s_iadd (pc := 36) dX10_put_36 ?_
  refine m_pi (pc := 37) dX10_put_37 ff_X10_19 rfl rfl o_2 ?_
  refine m_inc (pc := 40) (v := (-8)) dX10_put_40 rfl rfl ?_
  dsimp only [List.set, List.filter]
  refine s_goto (pc := 43) (tgt := 3) dX10_put_43 rfl ?_
  refine Rn_cg rfl (Z_cg ?_) kk
  rw [nI_clamp (by omega), up_a (by decide), hk, nI_1]
end S
