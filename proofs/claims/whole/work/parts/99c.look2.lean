section S
variable {g : aG} {d : Nat} {I : Nat → Nat → Int32} {J : Nat → Nat → Int64} {n w : Nat} {Q : aO → aS → Prop}
variable {σ : aS} {S : sD} {D : cD} {cs : List Nat} {a b c k v : Nat} {B : Nat → Option Nat}
theorem ftl_r : ftl I I := fun _ _ _ _ _ => rfl
theorem ftl_t {I' I'' : Nat → Nat → Int32} (h : ftl I I') (h2 : ftl I' I'') : ftl I I'' := fun x j a b c => (h2 x j a b c).trans (h x j a b c)
theorem ftl_f {m : Nat} {x : Int32} : ftl I (flI I 525 m x) := fun y t _ _ c => if_neg (fun z => c z.1)
theorem c_X2_worstLeft (hW : Wc I 33 D cs S) (hB : Bc I 22 B k) (hbk : bOk B) (ha : a < cb D) (hp : I 524 3 = nI (fpA (fiP D cs S B) (cc D) (cb D)).1) (hq : ∀ I', ftl I I' → Q (.inl (some (.int (nI (wLf D cs S B a))))) (Z I' J n w)) : Cn g (d + 5) mX2_worstLeft [.ref 524, .ref 33, .int (nI a)] (Z I J n w) Q := by
  have hb7 := hW.2.1.1
  have hc12 := hW.2.1.2.1
  have hle : bc (fiP D cs S B a) (cc D) ≤ (fpA (fiP D cs S B) (cc D) (cb D)).1 := by rw [fpA_1]; exact own_le (cb D) ha
  show Rn g (d + 5) mX2_worstLeft 0 [.ref 524, .ref 33, .int (nI a), .retAddr 0, .retAddr 0, .retAddr 0, .retAddr 0, .retAddr 0, .retAddr 0] [] [] (Z I J n w) Q
  refine s_aload_n (pc := 0) (i := 0) dX2_worstLeft_0 rfl rfl ?_
  refine m_gr (pc := 1) dX2_worstLeft_1 ff_X2_11 rfl o_524 r_524_2 ?_
  refine m_ic (pc := 4) (v := 0) dX2_worstLeft_4 rfl ?_
  refine m_s2 (pc := 5) dX2_worstLeft_5 lk_X2_85 ok_J7_fill_53178 rfl rfl (c_J7_fill_53178 a_525 (by decide) (kt_v ?_))
  refine m_ic (pc := 8) (v := 0) dX2_worstLeft_8 rfl ?_
  refine s_istore_n (pc := 9) (i := 3) dX2_worstLeft_9 rfl (Nat.le_of_ble_eq_true rfl) ?_
  dsimp only [List.set, List.filter]
  refine m_ic (pc := 10) (v := 0) dX2_worstLeft_10 rfl ?_
  refine s_istore (pc := 11) (i := 4) dX2_worstLeft_11 (Nat.le_of_ble_eq_true rfl) ?_
  dsimp only [List.set, List.filter]
  refine wl_lp (Wc_g hW (ftl_g ftl_f)) (Bc_g hB (ftl_g ftl_f)) hbk ha (fun I2 v5 f2 h2 => ?_) (cc D) 0 _ _ (by omega) ftl_r (fun v hv => if_pos ⟨rfl, hv⟩)
  refine s_aload_n (pc := 77) (i := 0) dX2_worstLeft_77 rfl rfl ?_
  refine m_gr (pc := 78) dX2_worstLeft_78 ff_X2_11 rfl o_524 r_524_2 ?_
  refine m_ic (pc := 81) (v := 0) dX2_worstLeft_81 rfl ?_
  refine s_dup2 (pc := 82) dX2_worstLeft_82 rfl rfl ?_
  refine m_ia (pc := 83) dX2_worstLeft_83 a_525 (vp_in_nI (n := 0) (by omega) (by decide)) ?_
  refine m_nm (v' := nI (tR D cs S B a 0 (cc D))) (rdI (j := 0) (h2 0 (by decide)) (by omega)) ?_
  refine s_aload_n (pc := 84) (i := 0) dX2_worstLeft_84 rfl rfl ?_
  refine m_gi (pc := 85) dX2_worstLeft_85 ff_X2_23 rfl o_524 ?_
  refine m_nm (v' := nI (fpA (fiP D cs S B) (cc D) (cb D)).1) ((f2 524 3 (by decide) (by decide) (by decide)).trans ((ftl_f 524 3 (by decide) (by decide) (by decide)).trans hp)) ?_
  refine s_iload_n (pc := 88) (i := 3) dX2_worstLeft_88 rfl rfl ?_
  refine s_isub (pc := 89) dX2_worstLeft_89 ?_
  refine m_nm (v' := nI ((fpA (fiP D cs S B) (cc D) (cb D)).1 - bc (fiP D cs S B a) (cc D))) (pk_sub hle) ?_
  refine s_iadd (pc := 90) dX2_worstLeft_90 ?_
  refine m_nm (v' := nI ((tR D cs S B a 0 (cc D)) + ((fpA (fiP D cs S B) (cc D) (cb D)).1 - bc (fiP D cs S B a) (cc D)))) (nI_add (tR D cs S B a 0 (cc D)) ((fpA (fiP D cs S B) (cc D) (cb D)).1 - bc (fiP D cs S B a) (cc D))) ?_
  refine m_is (pc := 91) dX2_worstLeft_91 a_525 (vp_in_nI (n := 0) (by omega) (by decide)) ?_
  rw [show Int32.toNatClampNeg 0 = 0 from rfl]
  refine m_ic (pc := 92) (v := 0) dX2_worstLeft_92 rfl ?_
  refine s_istore (pc := 93) (i := 4) dX2_worstLeft_93 (Nat.le_of_ble_eq_true rfl) ?_
  dsimp only [List.set, List.filter]
  refine s_aload_n (pc := 95) (i := 0) dX2_worstLeft_95 rfl rfl ?_
  refine m_gr (pc := 96) dX2_worstLeft_96 ff_X2_11 rfl o_524 r_524_2 ?_
  refine s_astore (pc := 99) (i := 5) dX2_worstLeft_99 (Nat.le_of_ble_eq_true rfl) ?_
  dsimp only [List.set, List.filter]
  refine s_aload (pc := 101) (i := 5) dX2_worstLeft_101 rfl ?_
  refine m_al (pc := 103) dX2_worstLeft_103 a_525 (by decide) ?_
  refine m_nm (v' := nI 136) (rfl) ?_
  refine s_istore (pc := 104) (i := 6) dX2_worstLeft_104 (Nat.le_of_ble_eq_true rfl) ?_
  dsimp only [List.set, List.filter]
  refine m_ic (pc := 106) (v := 0) dX2_worstLeft_106 rfl ?_
  refine s_istore (pc := 107) (i := 7) dX2_worstLeft_107 (Nat.le_of_ble_eq_true rfl) ?_
  dsimp only [List.set, List.filter]
  refine wm_lp (f1 := cnv (fiP D cs S B) (kL D cs S a) (cc D) (cb D)) (fun v hv => ?_) (fun v _ => cn_le ha hW.2.1) (hq _ (ftl_u (ftl_t ftl_f f2))) 136 0 _ (by omega)
  rw [cn_end ha]
  by_cases e : v = 0
  · subst e; rw [up_s, if_pos rfl]
  · rw [up_k e, if_neg e, Nat.add_zero]; exact h2 v hv
end S
