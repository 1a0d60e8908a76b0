section S
variable {g : aG} {d : Nat} {I : Nat → Nat → Int32} {J : Nat → Nat → Int64} {n w : Nat} {Q : aO → aS → Prop}
variable {t : Nat → Nat} {N a : Nat} {σ : aS}
theorem rx0_0 : decode prog_31_method_4_code 0 = .ok (.aload_n 0, 1) := by rfl
theorem rx0_1 : decode prog_31_method_4_code 1 = .ok (.aload_n 1, 1) := by rfl
theorem rx0_2 : decode prog_31_method_4_code 2 = .ok (.invokespecial 13, 3) := by rfl
theorem rx0_5 : decode prog_31_method_4_code 5 = .ok (.return_, 1) := by rfl
theorem rx1_0 : decode prog_19_method_2_code 0 = .ok (.aload_n 0, 1) := by rfl
theorem rx1_1 : decode prog_19_method_2_code 1 = .ok (.aload_n 1, 1) := by rfl
theorem rx1_2 : decode prog_19_method_2_code 2 = .ok (.invokespecial 7, 3) := by rfl
theorem rx1_5 : decode prog_19_method_2_code 5 = .ok (.return_, 1) := by rfl
theorem c_X11_needRange {x lo hi : Int32} (hn : n + 1 ≤ 600000 ∧ w + 6 ≤ 7000000) (hg : lo ≤ x → x ≤ hi → Q (.inl none) (Z I J n w)) (hb : ¬ (lo ≤ x ∧ x ≤ hi) → Q (.inr 1) (Z (up I 1 18 (I 1 18 + 1)) J (n + 1) (w + 6))) : Cn g (d + 6) mX11_needRange [.ref 1, .int x, .int lo, .int hi] (Z I J n w) Q := by
  show Rn g (d + 6) mX11_needRange 0 [.ref 1, .int x, .int lo, .int hi] [] [] (Z I J n w) Q
  refine s_iload_n (pc := 0) (i := 1) dX11_needRange_0 rfl rfl ?_
  refine s_iload_n (pc := 1) (i := 2) dX11_needRange_1 rfl rfl ?_
  refine s_iclt (pc := 2) (tgt := 10) dX11_needRange_2 rfl (fun h2 => ?_) (fun h2 => ?_)
  · refine s_aload_n (pc := 10) (i := 0) dX11_needRange_10 rfl rfl ?_
    refine s_dup (pc := 11) dX11_needRange_11 rfl ?_
    refine m_gi (pc := 12) dX11_needRange_12 ff_X11_397 rfl o_1 ?_
    refine m_ic (pc := 15) (v := 1) dX11_needRange_15 rfl ?_
    refine s_iadd (pc := 16) dX11_needRange_16 ?_
    refine m_pi (pc := 17) dX11_needRange_17 ff_X11_397 rfl rfl o_1 ?_
    refine s_throw (kx := 1) (j := 20) (ix := 7) (rx := prog_19_method_2_code) rfl dX11_needRange_20 dX11_needRange_23 dX11_needRange_24 dX11_needRange_27 dX11_needRange_30 kl_X11_409 iz_IllegalArgumentException sr_X11_411 rfl (by decide +kernel) (sup := "java/lang/RuntimeException") (by decide +kernel) (names := ["java/lang/Exception"]) (by decide +kernel) rfl rx1_0 rx1_1 rx1_2 rx1_5 hat_1 (by omega) (by decide) hn.1 hn.2 ?_
    first | exact hb (fun z => absurd z.1 (Int32.not_le.mpr h2)) | exact hb (fun z => h7 z.2)
  · refine s_iload_n (pc := 5) (i := 1) dX11_needRange_5 rfl rfl ?_
    refine s_iload_n (pc := 6) (i := 3) dX11_needRange_6 rfl rfl ?_
    refine s_icle (pc := 7) (tgt := 31) dX11_needRange_7 rfl (fun h7 => ?_) (fun h7 => ?_)
    · refine s_return (pc := 31) dX11_needRange_31 rfl ?_
      exact hg (Int32.not_lt.mp h2) h7
    · refine s_aload_n (pc := 10) (i := 0) dX11_needRange_10 rfl rfl ?_
      refine s_dup (pc := 11) dX11_needRange_11 rfl ?_
      refine m_gi (pc := 12) dX11_needRange_12 ff_X11_397 rfl o_1 ?_
      refine m_ic (pc := 15) (v := 1) dX11_needRange_15 rfl ?_
      refine s_iadd (pc := 16) dX11_needRange_16 ?_
      refine m_pi (pc := 17) dX11_needRange_17 ff_X11_397 rfl rfl o_1 ?_
      refine s_throw (kx := 1) (j := 20) (ix := 7) (rx := prog_19_method_2_code) rfl dX11_needRange_20 dX11_needRange_23 dX11_needRange_24 dX11_needRange_27 dX11_needRange_30 kl_X11_409 iz_IllegalArgumentException sr_X11_411 rfl (by decide +kernel) (sup := "java/lang/RuntimeException") (by decide +kernel) (names := ["java/lang/Exception"]) (by decide +kernel) rfl rx1_0 rx1_1 rx1_2 rx1_5 hat_1 (by omega) (by decide) hn.1 hn.2 ?_
      first | exact hb (fun z => absurd z.1 (Int32.not_le.mpr h2)) | exact hb (fun z => h7 z.2)
theorem c_X11_needBits {x y : Int32} (hn : n + 1 ≤ 600000 ∧ w + 6 ≤ 7000000) (hg : x &&& (y ^^^ (-1)) = 0 → Q (.inl none) (Z I J n w)) (hb : ¬ x &&& (y ^^^ (-1)) = 0 → Q (.inr 1) (Z (up I 1 18 (I 1 18 + 1)) J (n + 1) (w + 6))) : Cn g (d + 6) mX11_needBits [.ref 1, .int x, .int y] (Z I J n w) Q := by
  show Rn g (d + 6) mX11_needBits 0 [.ref 1, .int x, .int y] [] [] (Z I J n w) Q
  refine s_iload_n (pc := 0) (i := 1) dX11_needBits_0 rfl rfl ?_
  refine s_iload_n (pc := 1) (i := 2) dX11_needBits_1 rfl rfl ?_
  refine m_ic (pc := 2) (v := -1) dX11_needBits_2 rfl ?_
  refine s_ixor (pc := 3) dX11_needBits_3 ?_
  refine s_iand (pc := 4) dX11_needBits_4 ?_
  refine s_ifeq (pc := 5) (tgt := 29) dX11_needBits_5 rfl (fun h5 => ?_) (fun h5 => ?_)
  · refine s_return (pc := 29) dX11_needBits_29 rfl ?_
    exact hg h5
  · refine s_aload_n (pc := 8) (i := 0) dX11_needBits_8 rfl rfl ?_
    refine s_dup (pc := 9) dX11_needBits_9 rfl ?_
    refine m_gi (pc := 10) dX11_needBits_10 ff_X11_397 rfl o_1 ?_
    refine m_ic (pc := 13) (v := 1) dX11_needBits_13 rfl ?_
    refine s_iadd (pc := 14) dX11_needBits_14 ?_
    refine m_pi (pc := 15) dX11_needBits_15 ff_X11_397 rfl rfl o_1 ?_
    refine s_throw (kx := 1) (j := 21) (ix := 7) (rx := prog_19_method_2_code) rfl dX11_needBits_18 dX11_needBits_21 dX11_needBits_22 dX11_needBits_25 dX11_needBits_28 kl_X11_409 iz_IllegalArgumentException sr_X11_414 rfl (by decide +kernel) (sup := "java/lang/RuntimeException") (by decide +kernel) (names := ["java/lang/Exception"]) (by decide +kernel) rfl rx1_0 rx1_1 rx1_2 rx1_5 hat_1 (by omega) (by decide) hn.1 hn.2 ?_
    exact hb h5
theorem c_X11_needBack {x : Int32} {D : cD} (hD : Co I 4 D) (hn : n + 1 ≤ 600000 ∧ w + 6 ≤ 7000000) (hg : ∀ b, x = nI b → b < cb D → Q (.inl none) (Z I J n w)) (hb : (x < 0 ∨ ¬ x < nI (cb D)) → Q (.inr 0) (Z (up I 1 17 (I 1 17 + 1)) J (n + 1) (w + 6))) (hk : cOk D) : Cn g (d + 6) mX11_needBack [.ref 1, .int x] (Z I J n w) Q := by
  have hc7 := hk.1
  have hc12 := hk.2.1
  show Rn g (d + 6) mX11_needBack 0 [.ref 1, .int x] [] [] (Z I J n w) Q
  refine s_iload_n (pc := 0) (i := 1) dX11_needBack_0 rfl rfl ?_
  refine s_iflt (pc := 1) (tgt := 15) dX11_needBack_1 rfl (fun h1 => ?_) (fun h1 => ?_)
  · refine s_aload_n (pc := 15) (i := 0) dX11_needBack_15 rfl rfl ?_
    refine s_dup (pc := 16) dX11_needBack_16 rfl ?_
    refine m_gi (pc := 17) dX11_needBack_17 ff_X11_394 rfl o_1 ?_
    refine m_ic (pc := 20) (v := 1) dX11_needBack_20 rfl ?_
    refine s_iadd (pc := 21) dX11_needBack_21 ?_
    refine m_pi (pc := 22) dX11_needBack_22 ff_X11_394 rfl rfl o_1 ?_
    refine s_throw (kx := 0) (j := 18) (ix := 13) (rx := prog_31_method_4_code) rfl dX11_needBack_25 dX11_needBack_28 dX11_needBack_29 dX11_needBack_32 dX11_needBack_35 kl_X11_400 iz_NoSuchElementException sr_X11_402 rfl (by decide +kernel) (sup := "java/lang/RuntimeException") (by decide +kernel) (names := ["java/lang/Exception"]) (by decide +kernel) rfl rx0_0 rx0_1 rx0_2 rx0_5 hat_0 (by omega) (by decide) hn.1 hn.2 ?_
    first | exact hb (Or.inl h1) | exact hb (Or.inr h12)
  · refine s_iload_n (pc := 4) (i := 1) dX11_needBack_4 rfl rfl ?_
    refine s_aload_n (pc := 5) (i := 0) dX11_needBack_5 rfl rfl ?_
    refine m_gr (pc := 6) dX11_needBack_6 ff_X11_19 rfl o_1 r_1_1 ?_
    refine m_gi (pc := 9) dX11_needBack_9 ff_X11_143 rfl o_4 ?_
    refine m_nm (v' := nI (cb D)) (hD.1) ?_
    refine s_iclt (pc := 12) (tgt := 36) dX11_needBack_12 rfl (fun h12 => ?_) (fun h12 => ?_)
    · refine s_return (pc := 36) dX11_needBack_36 rfl ?_
      obtain ⟨b, hb1, e⟩ := nI_of h1
      rw [e, nI_ltI hb1 (by omega)] at h12
      exact hg b e h12
    · refine s_aload_n (pc := 15) (i := 0) dX11_needBack_15 rfl rfl ?_
      refine s_dup (pc := 16) dX11_needBack_16 rfl ?_
      refine m_gi (pc := 17) dX11_needBack_17 ff_X11_394 rfl o_1 ?_
      refine m_ic (pc := 20) (v := 1) dX11_needBack_20 rfl ?_
      refine s_iadd (pc := 21) dX11_needBack_21 ?_
      refine m_pi (pc := 22) dX11_needBack_22 ff_X11_394 rfl rfl o_1 ?_
      refine s_throw (kx := 0) (j := 18) (ix := 13) (rx := prog_31_method_4_code) rfl dX11_needBack_25 dX11_needBack_28 dX11_needBack_29 dX11_needBack_32 dX11_needBack_35 kl_X11_400 iz_NoSuchElementException sr_X11_402 rfl (by decide +kernel) (sup := "java/lang/RuntimeException") (by decide +kernel) (names := ["java/lang/Exception"]) (by decide +kernel) rfl rx0_0 rx0_1 rx0_2 rx0_5 hat_0 (by omega) (by decide) hn.1 hn.2 ?_
      first | exact hb (Or.inl h1) | exact hb (Or.inr h12)
theorem c_X11_needCouncil {x : Int32} {D : cD} (hD : Co I 4 D) (hn : n + 1 ≤ 600000 ∧ w + 6 ≤ 7000000) (hg : ∀ b, x = nI b → b < cc D → Q (.inl none) (Z I J n w)) (hb : (x < 0 ∨ ¬ x < nI (cc D)) → Q (.inr 0) (Z (up I 1 17 (I 1 17 + 1)) J (n + 1) (w + 6))) (hk : cOk D) : Cn g (d + 6) mX11_needCouncil [.ref 1, .int x] (Z I J n w) Q := by
  have hc7 := hk.1
  have hc12 := hk.2.1
  show Rn g (d + 6) mX11_needCouncil 0 [.ref 1, .int x] [] [] (Z I J n w) Q
  refine s_iload_n (pc := 0) (i := 1) dX11_needCouncil_0 rfl rfl ?_
  refine s_iflt (pc := 1) (tgt := 15) dX11_needCouncil_1 rfl (fun h1 => ?_) (fun h1 => ?_)
  · refine s_aload_n (pc := 15) (i := 0) dX11_needCouncil_15 rfl rfl ?_
    refine s_dup (pc := 16) dX11_needCouncil_16 rfl ?_
    refine m_gi (pc := 17) dX11_needCouncil_17 ff_X11_394 rfl o_1 ?_
    refine m_ic (pc := 20) (v := 1) dX11_needCouncil_20 rfl ?_
    refine s_iadd (pc := 21) dX11_needCouncil_21 ?_
    refine m_pi (pc := 22) dX11_needCouncil_22 ff_X11_394 rfl rfl o_1 ?_
    refine s_throw (kx := 0) (j := 19) (ix := 13) (rx := prog_31_method_4_code) rfl dX11_needCouncil_25 dX11_needCouncil_28 dX11_needCouncil_29 dX11_needCouncil_32 dX11_needCouncil_35 kl_X11_400 iz_NoSuchElementException sr_X11_407 rfl (by decide +kernel) (sup := "java/lang/RuntimeException") (by decide +kernel) (names := ["java/lang/Exception"]) (by decide +kernel) rfl rx0_0 rx0_1 rx0_2 rx0_5 hat_0 (by omega) (by decide) hn.1 hn.2 ?_
    first | exact hb (Or.inl h1) | exact hb (Or.inr h12)
  · refine s_iload_n (pc := 4) (i := 1) dX11_needCouncil_4 rfl rfl ?_
    refine s_aload_n (pc := 5) (i := 0) dX11_needCouncil_5 rfl rfl ?_
    refine m_gr (pc := 6) dX11_needCouncil_6 ff_X11_19 rfl o_1 r_1_1 ?_
    refine m_gi (pc := 9) dX11_needCouncil_9 ff_X11_184 rfl o_4 ?_
    refine m_nm (v' := nI (cc D)) (hD.2.1) ?_
    refine s_iclt (pc := 12) (tgt := 36) dX11_needCouncil_12 rfl (fun h12 => ?_) (fun h12 => ?_)
    · refine s_return (pc := 36) dX11_needCouncil_36 rfl ?_
      obtain ⟨b, hb1, e⟩ := nI_of h1
      rw [e, nI_ltI hb1 (by omega)] at h12
      exact hg b e h12
    · refine s_aload_n (pc := 15) (i := 0) dX11_needCouncil_15 rfl rfl ?_
      refine s_dup (pc := 16) dX11_needCouncil_16 rfl ?_
      refine m_gi (pc := 17) dX11_needCouncil_17 ff_X11_394 rfl o_1 ?_
      refine m_ic (pc := 20) (v := 1) dX11_needCouncil_20 rfl ?_
      refine s_iadd (pc := 21) dX11_needCouncil_21 ?_
      refine m_pi (pc := 22) dX11_needCouncil_22 ff_X11_394 rfl rfl o_1 ?_
      refine s_throw (kx := 0) (j := 19) (ix := 13) (rx := prog_31_method_4_code) rfl dX11_needCouncil_25 dX11_needCouncil_28 dX11_needCouncil_29 dX11_needCouncil_32 dX11_needCouncil_35 kl_X11_400 iz_NoSuchElementException sr_X11_407 rfl (by decide +kernel) (sup := "java/lang/RuntimeException") (by decide +kernel) (names := ["java/lang/Exception"]) (by decide +kernel) rfl rx0_0 rx0_1 rx0_2 rx0_5 hat_0 (by omega) (by decide) hn.1 hn.2 ?_
      first | exact hb (Or.inl h1) | exact hb (Or.inr h12)
theorem c_X11_needWhat {x m : Int32} (hn : n + 1 ≤ 600000 ∧ w + 6 ≤ 7000000) (hg : 0 ≤ x → x ≤ m - 1 → Q (.inl none) (Z I J n w)) (hb : ¬ (0 ≤ x ∧ x ≤ m - 1) → Q (.inr 1) (Z (up I 1 18 (I 1 18 + 1)) J (n + 1) (w + 6))) : Cn g (d + 7) mX11_needWhat [.ref 1, .int x, .int m] (Z I J n w) Q := by
  show Rn g (d + 7) mX11_needWhat 0 [.ref 1, .int x, .int m] [] [] (Z I J n w) Q
  refine s_aload_n (pc := 0) (i := 0) dX11_needWhat_0 rfl rfl ?_
  refine s_iload_n (pc := 1) (i := 1) dX11_needWhat_1 rfl rfl ?_
  refine m_ic (pc := 2) (v := 0) dX11_needWhat_2 rfl ?_
  refine s_iload_n (pc := 3) (i := 2) dX11_needWhat_3 rfl rfl ?_
  refine m_ic (pc := 4) (v := 1) dX11_needWhat_4 rfl ?_
  refine s_isub (pc := 5) dX11_needWhat_5 ?_
  refine m_v3 (pc := 6) dX11_needWhat_6 lk_X11_267 ok_X11_needRange (rcO o_1 (by decide) rfl) rfl rfl (c_X11_needRange hn (fun z1 z2 => kt_v ?_) (fun z => kt_x ?_))
  · refine s_return (pc := 9) dX11_needWhat_9 rfl ?_
    exact hg z1 z2
  · exact hb z
theorem c_X11_needTextLength {x m : Int32} {T : Nat} (hT : I 2 1 = nI T) (hm : (if nI T < m then nI T else m) = nI N) (hn : n + 1 ≤ 600000 ∧ w + 6 ≤ 7000000) (hg : ∀ k, x = nI k → k ≤ N → Q (.inl none) (Z I J n w)) (hb : ¬ (¬ x < 0 ∧ ¬ nI N < x) → Q (.inr 1) (Z (up I 1 18 (I 1 18 + 1)) J (n + 1) (w + 6))) (hN : N ≤ 600) : Cn g (d + 7) mX11_needTextLength [.ref 1, .int x, .int m] (Z I J n w) Q := by
  show Rn g (d + 7) mX11_needTextLength 0 [.ref 1, .int x, .int m] [] [] (Z I J n w) Q
  refine s_aload_n (pc := 0) (i := 0) dX11_needTextLength_0 rfl rfl ?_
  refine s_iload_n (pc := 1) (i := 1) dX11_needTextLength_1 rfl rfl ?_
  refine m_ic (pc := 2) (v := 0) dX11_needTextLength_2 rfl ?_
  refine s_iload_n (pc := 3) (i := 2) dX11_needTextLength_3 rfl rfl ?_
  refine s_aload_n (pc := 4) (i := 0) dX11_needTextLength_4 rfl rfl ?_
  refine m_gr (pc := 5) dX11_needTextLength_5 ff_X11_10 rfl o_1 r_1_0 ?_
  refine m_gi (pc := 8) dX11_needTextLength_8 ff_X11_103 rfl o_2 ?_
  refine m_nm (v' := nI T) (hT) ?_
  refine m_min (pc := 11) dX11_needTextLength_11 ml_X11_383 (Nat.le_of_ble_eq_true rfl) ?_
  refine m_nm (v' := nI N) (hm) ?_
  refine m_v3 (pc := 14) dX11_needTextLength_14 lk_X11_267 ok_X11_needRange (rcO o_1 (by decide) rfl) rfl rfl (c_X11_needRange hn (fun z1 z2 => kt_v ?_) (fun z => kt_x ?_))
  · refine s_return (pc := 17) dX11_needTextLength_17 rfl ?_
    obtain ⟨k, hk, e⟩ := x_N hN (Int32.not_lt.mpr z1) (Int32.not_lt.mpr z2)
    exact hg k hk e
  · exact hb (fun q => z ⟨Int32.not_lt.mp q.1, Int32.not_lt.mp q.2⟩)
end S
