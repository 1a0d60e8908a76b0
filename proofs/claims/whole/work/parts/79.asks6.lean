section S
variable {g : aG} {d : Nat} {I : Nat → Nat → Int32} {J : Nat → Nat → Int64} {n w : Nat} {Q : aO → aS → Prop}
variable {σ : aS} {S : sD} {D : cD} {cs : List Nat} {b c k : Nat}
/-- who stands; who stands and knows it; who stands and doesn't -/
def pw0 (S : sD) (b : Nat) : Bool := !sF S b
def pw1 (S : sD) (c b : Nat) : Bool := (sK S b c).isSome && !sF S b
def pw2 (S : sD) (c b : Nat) : Bool := !(sK S b c).isSome && !sF S b
def vWrd (D : cD) (S : sD) (c : Nat) : Int32 := if bc (pw1 S c) (cb D) = 0 ∧ 0 < bc (pw2 S c) (cb D) then -1 else nI (bc (pw2 S c) (cb D))
theorem bc_sum : ∀ m, bc (pw0 S) m = bc (pw1 S c) m + bc (pw2 S c) m
  | 0 => rfl
  | m + 1 => by
    show bc (pw0 S) m + (if pw0 S m = true then 1 else 0) = (bc (pw1 S c) m + (if pw1 S c m = true then 1 else 0)) + (bc (pw2 S c) m + (if pw2 S c m = true then 1 else 0))
    rw [bc_sum m]
    have e : (if pw0 S m = true then 1 else 0) = (if pw1 S c m = true then 1 else 0) + (if pw2 S c m = true then 1 else 0) := by
      unfold pw0 pw1 pw2
      cases sF S m <;> cases (sK S m c).isSome <;> rfl
    omega
theorem bc_0 {q : Nat → Bool} : ∀ m, bc q m = 0 ↔ ∀ i, i < m → q i = false
  | 0 => ⟨fun _ i h => absurd h (by omega), fun _ => rfl⟩
  | m + 1 => by
    show bc q m + (if q m = true then 1 else 0) = 0 ↔ _
    constructor
    · intro h i hi
      by_cases e : i = m
      · subst e
        cases z : q i with
        | false => rfl
        | true => rw [z] at h; simp at h
      · exact (bc_0 m).mp (by omega) i (by omega)
    · intro h
      rw [(bc_0 m).mpr (fun i hi => h i (by omega)), h m (by omega)]; rfl
theorem bs_z {q : Nat → Bool} {m : Nat} (hm : m ≤ 31) : nI (bs q m) = 0 ↔ bc q m = 0 := by rw [bs_0 hm, bc_0]
theorem bw_bs (hk : cOk D) (hc : c < 12) : oI (bitw (fun b => nI (bs (fun c => (sK S b c).isSome) 12)) c) (cb D) = nI (bs (fun b => (sK S b c).isSome) (cb D)) := by
  rw [← oI_bs (cb D) (by have := hk.1; omega)]
  refine oI_c _ (fun i hi => ?_)
  unfold bitw
  rw [bit_bs (p := fun c => (sK S i c).isSome) (by decide) hc]
  split
  · rfl
  · rw [Int32.zero_shiftLeft]
theorem F7' (h : sOk D S) (hk : cOk D) : bs (sF S) 7 = bs (sF S) (cb D) := (F7 h hk).symm
theorem c_X11_word (hW : Wc I 33 D cs S) (hn : n + 1 ≤ 600000 ∧ w + 6 ≤ 7000000) {x : Int32} (r0 : ¬ iv 0 (cc D) x → Q (.inr 0) (Z (up I 1 17 (I 1 17 + 1)) J (n + 1) (w + 6))) (hg : ∀ c, x = nI c → c < cc D → ∀ I', kc I I' → Q (.inl (some (.int (vWrd D S c)))) (Z I' J n w)) : Cn g (d + 8) mX11_word [.ref 1, .int x] (Z I J n w) Q := by
  have hb7 := hW.2.1.1
  have hc12 := hW.2.1.2.1
  show Rn g (d + 8) mX11_word 0 [.ref 1, .int x, .retAddr 0, .retAddr 0] [] [] (Z I J n w) Q
  refine s_aload_n (pc := 0) (i := 0) dX11_word_0 rfl rfl ?_
  refine s_iload_n (pc := 1) (i := 1) dX11_word_1 rfl rfl ?_
  refine m_v1 (pc := 2) dX11_word_2 lk_X11_240 ok_X11_needCouncil (rcO o_1 (by decide) rfl) rfl rfl (c_nk hW.1 hW.2.1 hn (fun c ec hc => kt_v ?_) (fun z => kt_x ?_))
  · subst ec
    refine s_aload_n (pc := 5) (i := 0) dX11_word_5 rfl rfl ?_
    refine m_gr (pc := 6) dX11_word_6 ff_X11_19 rfl o_1 r_1_1 ?_
    refine m_v0 (pc := 9) dX11_word_9 lk_X11_306 ok_X1_backBits (rcO o_4 (by decide) rfl) rfl rfl (c_X1_backBits hW.1 hW.2.1 (kt_s ?_))
    refine s_aload_n (pc := 12) (i := 0) dX11_word_12 rfl rfl ?_
    refine m_gr (pc := 13) dX11_word_13 ff_X11_73 rfl o_1 r_1_10 ?_
    refine m_gi (pc := 16) dX11_word_16 ff_X11_198 rfl o_33 ?_
    refine m_nm (v' := nI (bs (sF S) (cb D))) (by rw [← F7' hW.2.2.2.2.2 hW.2.1]; exact hW.2.2.2.2.1.2.2.2.1) ?_
    refine m_ic (pc := 19) (v := -1) dX11_word_19 rfl ?_
    refine s_ixor (pc := 20) dX11_word_20 ?_
    refine s_iand (pc := 21) dX11_word_21 ?_
    refine m_nm (v' := nI (bs (pw0 S) (cb D))) (by rw [bs_an (by omega)]; exact congrArg nI (bs_eq (fun i _ => by unfold pw0; simp))) ?_
    refine s_istore_n (pc := 22) (i := 2) dX11_word_22 rfl (Nat.le_of_ble_eq_true rfl) ?_
    dsimp only [List.set, List.filter]
    refine s_aload_n (pc := 23) (i := 0) dX11_word_23 rfl rfl ?_
    refine s_aload_n (pc := 24) (i := 0) dX11_word_24 rfl rfl ?_
    refine m_gr (pc := 25) dX11_word_25 ff_X11_73 rfl o_1 r_1_10 ?_
    refine m_gr (pc := 28) dX11_word_28 ff_X11_231 rfl o_33 r_33_3 ?_
    refine s_iload_n (pc := 31) (i := 1) dX11_word_31 rfl rfl ?_
    refine m_v2 (pc := 32) dX11_word_32 lk_X11_252 ok_X11_backsWithBit (rcO o_1 (by decide) rfl) rfl rfl (c_X11_backsWithBit sO_33.2.2.2.2.1.2 hW.1 hW.2.1 (fun b hb => (hW.2.2.2.2.1.1 b hb).2.2.2) (kt_s ?_))
    refine s_iload_n (pc := 35) (i := 2) dX11_word_35 rfl rfl ?_
    refine s_iand (pc := 36) dX11_word_36 ?_
    refine m_nm (v' := nI (bs (pw1 S c) (cb D))) (by rw [bw_bs hW.2.1 (by omega), bs_and (by omega)]; rfl) ?_
    refine s_istore_n (pc := 37) (i := 3) dX11_word_37 rfl (Nat.le_of_ble_eq_true rfl) ?_
    dsimp only [List.set, List.filter]
    have hs := bc_sum (S := S) (c := c) (cb D)
    have hz0 := bs_z (q := pw0 S) (m := cb D) (by omega)
    have hz1 := bs_z (q := pw1 S c) (m := cb D) (by omega)
    have hle := bc_le (pw0 S) (cb D)
    refine s_iload_n (pc := 38) (i := 2) dX11_word_38 rfl rfl ?_
    refine s_ifeq (pc := 39) (tgt := 48) dX11_word_39 rfl (fun h39 => ?_) (fun h39 => ?_)
    · have n0 := hz0.mp h39
      refine s_iload_n (pc := 48) (i := 2) dX11_word_48 rfl rfl ?_
      refine m_s1 (pc := 49) dX11_word_49 lk_X11_309 ok_J6_bitCount_0f7a4 rfl rfl (c_bitCount (q := pw0 S) (m := cb D) (by omega) (kt_s ?_))
      refine s_iload_n (pc := 52) (i := 3) dX11_word_52 rfl rfl ?_
      refine m_s1 (pc := 53) dX11_word_53 lk_X11_309 ok_J6_bitCount_0f7a4 rfl rfl (c_bitCount (q := pw1 S c) (m := cb D) (by omega) (kt_s ?_))
      refine s_isub (pc := 56) dX11_word_56 ?_
      refine m_nm (v' := nI (bc (pw2 S c) (cb D))) (by rw [pk_sub (by omega)]; congr 1; omega) ?_
      refine s_ireturn (pc := 57) dX11_word_57 rfl rfl ?_
      have E : vWrd D S c = nI (bc (pw2 S c) (cb D)) := if_neg (by omega)
      rw [← E]; exact hg c rfl hc I kc_r
    · have n0 : ¬ bc (pw0 S) (cb D) = 0 := fun z => h39 (hz0.mpr z)
      refine s_iload_n (pc := 42) (i := 3) dX11_word_42 rfl rfl ?_
      refine s_ifne (pc := 43) (tgt := 48) dX11_word_43 rfl (fun h43 => ?_) (fun h43 => ?_)
      · have n1 : ¬ bc (pw1 S c) (cb D) = 0 := fun z => h43 (hz1.mpr z)
        refine s_iload_n (pc := 48) (i := 2) dX11_word_48 rfl rfl ?_
        refine m_s1 (pc := 49) dX11_word_49 lk_X11_309 ok_J6_bitCount_0f7a4 rfl rfl (c_bitCount (q := pw0 S) (m := cb D) (by omega) (kt_s ?_))
        refine s_iload_n (pc := 52) (i := 3) dX11_word_52 rfl rfl ?_
        refine m_s1 (pc := 53) dX11_word_53 lk_X11_309 ok_J6_bitCount_0f7a4 rfl rfl (c_bitCount (q := pw1 S c) (m := cb D) (by omega) (kt_s ?_))
        refine s_isub (pc := 56) dX11_word_56 ?_
        refine m_nm (v' := nI (bc (pw2 S c) (cb D))) (by rw [pk_sub (by omega)]; congr 1; omega) ?_
        refine s_ireturn (pc := 57) dX11_word_57 rfl rfl ?_
        have E : vWrd D S c = nI (bc (pw2 S c) (cb D)) := if_neg (by omega)
        rw [← E]; exact hg c rfl hc I kc_r
      · have n1 := hz1.mp h43
        refine m_ic (pc := 46) (v := -1) dX11_word_46 rfl ?_
        refine s_ireturn (pc := 47) dX11_word_47 rfl rfl ?_
        have E : vWrd D S c = -1 := if_pos (by omega)
        rw [← E]; exact hg c rfl hc I kc_r
  · exact r0  z
theorem bc_y {q : Nat → Bool} {i : Nat} (h : q i = true) : bc q (i + 1) = bc q i + 1 := by show bc q i + (if q i = true then 1 else 0) = _; rw [if_pos h]
theorem bc_n {q : Nat → Bool} {i : Nat} (h : q i = false) : bc q (i + 1) = bc q i := by show bc q i + (if q i = true then 1 else 0) = _; rw [if_neg (by rw [h]; decide)]; rfl
theorem mwo_lp (hM : Wm I D cs S) (hc : c < cc D) (hq : Q (.inl (some (.int (vWrd D S c)))) (Z I J n w)) : ∀ f i, i + f = cb D → Rn g (d + 3) mX12_word 27 [.ref 534, .int (nI c), .int (nI (bc (pw1 S c) i)), .int (nI (bc (pw2 S c) i)), .int (nI i)] [] [] (Z I J n w) Q := by
  intro f
  induction f with
  | zero =>
    intro i hi
    have e : cb D = i := by omega
    subst e
    have hb7 := hM.2.1.1
    have hc12 := hM.2.1.2.1
    refine s_iload (pc := 27) (i := 4) dX12_word_27 rfl ?_
    refine s_aload_n (pc := 29) (i := 0) dX12_word_29 rfl rfl ?_
    refine m_gi (pc := 30) dX12_word_30 ff_X12_154 rfl o_534 ?_
    refine m_nm (v' := nI (cb D)) (hM.1.1) ?_
    refine s_icge (pc := 33) (tgt := 79) dX12_word_33 rfl (fun h33 => ?_) (fun h33 => absurd (nI_le (a := cb D) (b := (cb D)) (by omega) (by omega)) h33)
    have l1 := bc_le (pw1 S c) (cb D)
    have l2 := bc_le (pw2 S c) (cb D)
    refine s_iload_n (pc := 79) (i := 2) dX12_word_79 rfl rfl ?_
    refine s_ifne (pc := 80) (tgt := 91) dX12_word_80 rfl (fun h80 => ?_) (fun h80 => ?_)
    · have h80 : ¬ (bc (pw1 S c) (cb D)) = 0 := fun z => h80 ((nI_eq (a := bc (pw1 S c) (cb D)) (b := 0) (by omega) (by omega)).mpr z)
      refine s_iload_n (pc := 91) (i := 3) dX12_word_91 rfl rfl ?_
      refine s_ireturn (pc := 92) dX12_word_92 rfl rfl ?_
      have E : vWrd D S c = nI (bc (pw2 S c) (cb D)) := if_neg (by omega)
      rw [E] at hq; exact hq
    · have h80 : (bc (pw1 S c) (cb D)) = 0 := (nI_eq (a := bc (pw1 S c) (cb D)) (b := 0) (by omega) (by omega)).mp h80
      refine s_iload_n (pc := 83) (i := 3) dX12_word_83 rfl rfl ?_
      refine s_ifle (pc := 84) (tgt := 91) dX12_word_84 rfl (fun h84 => ?_) (fun h84 => ?_)
      · have h84 : (bc (pw2 S c) (cb D)) ≤ 0 := (nI_leI (a := bc (pw2 S c) (cb D)) (b := 0) (by omega) (by omega)).mp h84
        refine s_iload_n (pc := 91) (i := 3) dX12_word_91 rfl rfl ?_
        refine s_ireturn (pc := 92) dX12_word_92 rfl rfl ?_
        have E : vWrd D S c = nI (bc (pw2 S c) (cb D)) := if_neg (by omega)
        rw [E] at hq; exact hq
      · have h84 : ¬ (bc (pw2 S c) (cb D)) ≤ 0 := fun z => h84 ((nI_leI (a := bc (pw2 S c) (cb D)) (b := 0) (by omega) (by omega)).mpr z)
        refine m_ic (pc := 87) (v := -1) dX12_word_87 rfl ?_
        refine s_goto (pc := 88) (tgt := 92) dX12_word_88 rfl ?_
        refine s_ireturn (pc := 92) dX12_word_92 rfl rfl ?_
        have E : vWrd D S c = -1 := if_pos (by omega)
        rw [E] at hq; exact hq
  | succ f ih =>
    intro i hi
    have hb7 := hM.2.1.1
    have hc12 := hM.2.1.2.1
    refine s_iload (pc := 27) (i := 4) dX12_word_27 rfl ?_
    refine s_aload_n (pc := 29) (i := 0) dX12_word_29 rfl rfl ?_
    refine m_gi (pc := 30) dX12_word_30 ff_X12_154 rfl o_534 ?_
    refine m_nm (v' := nI (cb D)) (hM.1.1) ?_
    refine s_icge (pc := 33) (tgt := 79) dX12_word_33 rfl (fun h33 => absurd h33 (nI_ge (a := i) (b := cb D) (by omega) (by omega))) (fun h33 => ?_)
    refine s_aload_n (pc := 36) (i := 0) dX12_word_36 rfl rfl ?_
    refine m_gr (pc := 37) dX12_word_37 ff_X12_62 rfl o_534 r_534_37 ?_
    refine m_bi (pc := 40) (v := 91) dX12_word_40 rfl ?_
    refine s_iload (pc := 42) (i := 4) dX12_word_42 rfl ?_
    refine s_iadd (pc := 44) dX12_word_44 ?_
    refine m_nm (v' := nI (91 + i)) (nI_add 91 i) ?_
    refine m_ia (pc := 45) dX12_word_45 a_550 (vp_in_nI (n := 91 + i) (by omega) (by decide)) ?_
    refine m_nm (v' := if sF S i = true then 1 else 0) (rdI (j := 91 + i) ((hM.2.2.2.2.1.1 i (by omega)).2.1) (by omega)) ?_
    refine m_ic (pc := 46) (v := 1) dX12_word_46 rfl ?_
    refine s_icne (pc := 47) (tgt := 53) dX12_word_47 rfl (fun h47 => ?_) (fun h47 => ?_)
    · have e : sF S i = false := ts_nt (fun z => h47 (if_pos z))
      refine s_aload_n (pc := 53) (i := 0) dX12_word_53 rfl rfl ?_
      refine s_iload (pc := 54) (i := 4) dX12_word_54 rfl ?_
      refine s_iload_n (pc := 56) (i := 1) dX12_word_56 rfl rfl ?_
      refine m_v2 (pc := 57) dX12_word_57 lk_X12_329 ok_X12_heardOf (rcO o_534 (by decide) rfl) rfl rfl (c_X12_heardOf hM.2.2.2.2.1 (by omega) (by omega) (kt_s ?_))
      refine m_ic (pc := 60) (v := -1) dX12_word_60 rfl ?_
      refine s_iceq (pc := 61) (tgt := 70) dX12_word_61 rfl (fun h61 => ?_) (fun h61 => ?_)
      · have e2 := (ob_is hM.2.2.2.2.2).mp h61
        refine m_inc (pc := 70) (v := 1) dX12_word_70 rfl rfl ?_
        dsimp only [List.set, List.filter]
        rw [nI_1]
        refine m_inc (pc := 73) (v := 1) dX12_word_73 rfl rfl ?_
        dsimp only [List.set, List.filter]
        rw [nI_1]
        refine s_goto (pc := 76) (tgt := 27) dX12_word_76 rfl ?_
        have h := ih (i + 1) (by omega)
        rw [bc_n (q := pw1 S c) (by unfold pw1; rw [e2]; rfl), bc_y (q := pw2 S c) (by unfold pw2; rw [e2, e]; rfl)] at h; exact h
      · have e2 : (sK S i c).isSome = true := ts_nf (fun z => h61 ((ob_is hM.2.2.2.2.2).mpr z))
        refine m_inc (pc := 64) (v := 1) dX12_word_64 rfl rfl ?_
        dsimp only [List.set, List.filter]
        rw [nI_1]
        refine s_goto (pc := 67) (tgt := 73) dX12_word_67 rfl ?_
        refine m_inc (pc := 73) (v := 1) dX12_word_73 rfl rfl ?_
        dsimp only [List.set, List.filter]
        rw [nI_1]
        refine s_goto (pc := 76) (tgt := 27) dX12_word_76 rfl ?_
        have h := ih (i + 1) (by omega)
        rw [bc_y (q := pw1 S c) (by unfold pw1; rw [e2, e]; rfl), bc_n (q := pw2 S c) (by unfold pw2; rw [e2]; rfl)] at h; exact h
    · have e : sF S i = true := ts_nf (fun z => by rw [if_neg (by rw [z]; decide)] at h47; exact absurd h47 (by decide))
      refine s_goto (pc := 50) (tgt := 73) dX12_word_50 rfl ?_
      refine m_inc (pc := 73) (v := 1) dX12_word_73 rfl rfl ?_
      dsimp only [List.set, List.filter]
      rw [nI_1]
      refine s_goto (pc := 76) (tgt := 27) dX12_word_76 rfl ?_
      have h := ih (i + 1) (by omega)
      rw [bc_n (q := pw1 S c) (by unfold pw1; rw [e]; simp), bc_n (q := pw2 S c) (by unfold pw2; rw [e]; simp)] at h; exact h
theorem c_X12_word (hW : Wn I D cs S) {x : Int32} (r0 : ¬ iv 0 (cc D) x → Q (.inl (some (.int 0))) (Z (thr I 1 0) J n w)) (hg : ∀ c, x = nI c → c < cc D → ∀ I', km I I' → I' 534 0 = 0 → Q (.inl (some (.int (vWrd D S c)))) (Z I' J n w)) : Cn g (d + 3) mX12_word [.ref 534, .int x] (Z I J n w) Q := by
  have hb7 := hW.2.1.1
  have hc12 := hW.2.1.2.1
  show Rn g (d + 3) mX12_word 0 [.ref 534, .int x, .retAddr 0, .retAddr 0, .retAddr 0] [] [] (Z I J n w) Q
  refine s_aload_n (pc := 0) (i := 0) dX12_word_0 rfl rfl ?_
  refine m_ic (pc := 1) (v := 0) dX12_word_1 rfl ?_
  refine m_pi (pc := 2) dX12_word_2 ff_X12_3 rfl rfl o_534 ?_
  refine s_aload_n (pc := 5) (i := 0) dX12_word_5 rfl rfl ?_
  refine s_iload_n (pc := 6) (i := 1) dX12_word_6 rfl rfl ?_
  refine m_ic (pc := 7) (v := 1) dX12_word_7 rfl ?_
  refine m_v2 (pc := 8) dX12_word_8 lk_X12_388 ok_X12_isCouncil (rcO o_534 (by decide) rfl) rfl rfl (c_X12_isCouncil (D := D) up_s ((up_n3 (by omega)).trans hW.1.2.1) hW.2.1 (by decide) (fun c ec hc => kt_s ?_) (fun z => kt_s ?_))
  · subst ec
    refine s_ifne (pc := 11) (tgt := 16) dX12_word_11 rfl (fun h11 => ?_) (fun h11 => absurd h11 (by decide))
    refine s_aload_n (pc := 16) (i := 0) dX12_word_16 rfl rfl ?_
    refine m_v0 (pc := 17) dX12_word_17 lk_X12_310 ok_X12_take (rcO o_534 (by decide) rfl) rfl rfl (c_X12_take (kt_v ?_))
    have hM := tk_W hW
    have hK := tk_k (I := I)
    have h00 := tk_0 (I := I)
    obtain ⟨I1, e1⟩ : ∃ z, z = cpI (up I 534 0 0) 549 550 126 := ⟨_, rfl⟩
    rw [← e1] at hM hK h00 ⊢
    refine m_ic (pc := 20) (v := 0) dX12_word_20 rfl ?_
    refine s_istore_n (pc := 21) (i := 2) dX12_word_21 rfl (Nat.le_of_ble_eq_true rfl) ?_
    dsimp only [List.set, List.filter]
    refine m_ic (pc := 22) (v := 0) dX12_word_22 rfl ?_
    refine s_istore_n (pc := 23) (i := 3) dX12_word_23 rfl (Nat.le_of_ble_eq_true rfl) ?_
    dsimp only [List.set, List.filter]
    refine m_ic (pc := 24) (v := 0) dX12_word_24 rfl ?_
    refine s_istore (pc := 25) (i := 4) dX12_word_25 (Nat.le_of_ble_eq_true rfl) ?_
    dsimp only [List.set, List.filter]
    exact mwo_lp hM hc (hg c rfl hc I1 hK h00) (cb D) 0 (by omega)
  · refine s_ifne (pc := 11) (tgt := 16) dX12_word_11 rfl (fun h11 => absurd h11 (by decide)) (fun h11 => ?_)
    refine m_ic (pc := 14) (v := 0) dX12_word_14 rfl ?_
    refine s_ireturn (pc := 15) dX12_word_15 rfl rfl ?_
    rw [thr_0]
    exact r0  z
theorem ng_0 {v : Nat} (h : v < 100) : ¬ (0 : Int32) < -nI v := by
  intro z
  rw [fa_lt, fb_negI (by rw [nI_toInt (by omega)]; omega), nI_toInt (by omega), show ((0 : Int32)).toInt = 0 from rfl] at z
  omega
theorem ng_1 {v : Nat} (h : v < 100) : -nI v < 0 ↔ v ≠ 0 := by
  rw [fa_lt, fb_negI (by rw [nI_toInt (by omega)]; omega), nI_toInt (by omega), show ((0 : Int32)).toInt = 0 from rfl]
  omega
theorem ng_2 {v : Nat} (h : v < 100) : ¬ nI v < 0 := nI_pos (by omega)
theorem ng_3 {v : Nat} (h : v < 100) : 0 < nI v ↔ v ≠ 0 := by
  rw [show (0 : Int32) = nI 0 from rfl, nI_ltI (by decide) (by omega)]; omega
def vKn (v u q : Nat) : Int32 := if q = 0 then nI (1 + (if u = 0 then 2 else 0) + (if v = 0 then 1 else 0)) else 0
theorem c_X11_hasBy_00 {v u : Nat} (hq : Q (.inl (some (.int 0))) σ) : Cn g (d + 0) mX11_hasBy [.int 0, .int 0, .int (nI v), .int (nI u)] σ Q := by
  show Rn g (d + 0) mX11_hasBy 0 [.int 0, .int 0, .int (nI v), .int (nI u)] [] [] σ Q
  refine s_iload_n (pc := 0) (i := 0) dX11_hasBy_0 rfl rfl ?_
  refine s_iload_n (pc := 1) (i := 1) dX11_hasBy_1 rfl rfl ?_
  refine s_icne (pc := 2) (tgt := 7) dX11_hasBy_2 rfl (fun h2 => absurd h2 (by decide)) (fun h2 => ?_)
  refine m_ic (pc := 5) (v := 0) dX11_hasBy_5 rfl ?_
  refine s_ireturn (pc := 6) dX11_hasBy_6 rfl rfl ?_
  exact hq
theorem c_X11_hasBy_01 {v u : Nat} (hq : Q (.inl (some (.int (nI v)))) σ) : Cn g (d + 0) mX11_hasBy [.int 0, .int 1, .int (nI v), .int (nI u)] σ Q := by
  show Rn g (d + 0) mX11_hasBy 0 [.int 0, .int 1, .int (nI v), .int (nI u)] [] [] σ Q
  refine s_iload_n (pc := 0) (i := 0) dX11_hasBy_0 rfl rfl ?_
  refine s_iload_n (pc := 1) (i := 1) dX11_hasBy_1 rfl rfl ?_
  refine s_icne (pc := 2) (tgt := 7) dX11_hasBy_2 rfl (fun h2 => ?_) (fun h2 => absurd h2 (by decide))
  refine s_iload_n (pc := 7) (i := 0) dX11_hasBy_7 rfl rfl ?_
  refine s_ifne (pc := 8) (tgt := 15) dX11_hasBy_8 rfl (fun h8 => absurd h8 (by decide)) (fun h8 => ?_)
  refine s_iload_n (pc := 11) (i := 2) dX11_hasBy_11 rfl rfl ?_
  refine s_goto (pc := 12) (tgt := 17) dX11_hasBy_12 rfl ?_
  refine s_ireturn (pc := 17) dX11_hasBy_17 rfl rfl ?_
  exact hq
theorem c_X11_hasBy_10 {v u : Nat} (hq : Q (.inl (some (.int (-nI u)))) σ) : Cn g (d + 0) mX11_hasBy [.int 1, .int 0, .int (nI v), .int (nI u)] σ Q := by
  show Rn g (d + 0) mX11_hasBy 0 [.int 1, .int 0, .int (nI v), .int (nI u)] [] [] σ Q
  refine s_iload_n (pc := 0) (i := 0) dX11_hasBy_0 rfl rfl ?_
  refine s_iload_n (pc := 1) (i := 1) dX11_hasBy_1 rfl rfl ?_
  refine s_icne (pc := 2) (tgt := 7) dX11_hasBy_2 rfl (fun h2 => ?_) (fun h2 => absurd h2 (by decide))
  refine s_iload_n (pc := 7) (i := 0) dX11_hasBy_7 rfl rfl ?_
  refine s_ifne (pc := 8) (tgt := 15) dX11_hasBy_8 rfl (fun h8 => ?_) (fun h8 => absurd h8 (by decide))
  refine s_iload_n (pc := 15) (i := 3) dX11_hasBy_15 rfl rfl ?_
  refine s_ineg (pc := 16) dX11_hasBy_16 ?_
  refine s_ireturn (pc := 17) dX11_hasBy_17 rfl rfl ?_
  exact hq
theorem c_X11_hasBy_11 {v u : Nat} (hq : Q (.inl (some (.int 0))) σ) : Cn g (d + 0) mX11_hasBy [.int 1, .int 1, .int (nI v), .int (nI u)] σ Q := by
  show Rn g (d + 0) mX11_hasBy 0 [.int 1, .int 1, .int (nI v), .int (nI u)] [] [] σ Q
  refine s_iload_n (pc := 0) (i := 0) dX11_hasBy_0 rfl rfl ?_
  refine s_iload_n (pc := 1) (i := 1) dX11_hasBy_1 rfl rfl ?_
  refine s_icne (pc := 2) (tgt := 7) dX11_hasBy_2 rfl (fun h2 => absurd h2 (by decide)) (fun h2 => ?_)
  refine m_ic (pc := 5) (v := 0) dX11_hasBy_5 rfl ?_
  refine s_ireturn (pc := 6) dX11_hasBy_6 rfl rfl ?_
  exact hq
theorem c_X12_hasBy_00 {v u : Nat} (hq : Q (.inl (some (.int 0))) σ) : Cn g (d + 0) mX12_hasBy [.int 0, .int 0, .int (nI v), .int (nI u)] σ Q := by
  show Rn g (d + 0) mX12_hasBy 0 [.int 0, .int 0, .int (nI v), .int (nI u)] [] [] σ Q
  refine s_iload_n (pc := 0) (i := 0) dX12_hasBy_0 rfl rfl ?_
  refine s_iload_n (pc := 1) (i := 1) dX12_hasBy_1 rfl rfl ?_
  refine s_icne (pc := 2) (tgt := 9) dX12_hasBy_2 rfl (fun h2 => absurd h2 (by decide)) (fun h2 => ?_)
  refine m_ic (pc := 5) (v := 0) dX12_hasBy_5 rfl ?_
  refine s_goto (pc := 6) (tgt := 19) dX12_hasBy_6 rfl ?_
  refine s_ireturn (pc := 19) dX12_hasBy_19 rfl rfl ?_
  exact hq
theorem c_X12_hasBy_01 {v u : Nat} (hq : Q (.inl (some (.int (nI v)))) σ) : Cn g (d + 0) mX12_hasBy [.int 0, .int 1, .int (nI v), .int (nI u)] σ Q := by
  show Rn g (d + 0) mX12_hasBy 0 [.int 0, .int 1, .int (nI v), .int (nI u)] [] [] σ Q
  refine s_iload_n (pc := 0) (i := 0) dX12_hasBy_0 rfl rfl ?_
  refine s_iload_n (pc := 1) (i := 1) dX12_hasBy_1 rfl rfl ?_
  refine s_icne (pc := 2) (tgt := 9) dX12_hasBy_2 rfl (fun h2 => ?_) (fun h2 => absurd h2 (by decide))
  refine s_iload_n (pc := 9) (i := 0) dX12_hasBy_9 rfl rfl ?_
  refine s_ifne (pc := 10) (tgt := 17) dX12_hasBy_10 rfl (fun h10 => absurd h10 (by decide)) (fun h10 => ?_)
  refine s_iload_n (pc := 13) (i := 2) dX12_hasBy_13 rfl rfl ?_
  refine s_goto (pc := 14) (tgt := 19) dX12_hasBy_14 rfl ?_
  refine s_ireturn (pc := 19) dX12_hasBy_19 rfl rfl ?_
  exact hq
theorem c_X12_hasBy_10 {v u : Nat} (hq : Q (.inl (some (.int (-nI u)))) σ) : Cn g (d + 0) mX12_hasBy [.int 1, .int 0, .int (nI v), .int (nI u)] σ Q := by
  show Rn g (d + 0) mX12_hasBy 0 [.int 1, .int 0, .int (nI v), .int (nI u)] [] [] σ Q
  refine s_iload_n (pc := 0) (i := 0) dX12_hasBy_0 rfl rfl ?_
  refine s_iload_n (pc := 1) (i := 1) dX12_hasBy_1 rfl rfl ?_
  refine s_icne (pc := 2) (tgt := 9) dX12_hasBy_2 rfl (fun h2 => ?_) (fun h2 => absurd h2 (by decide))
  refine s_iload_n (pc := 9) (i := 0) dX12_hasBy_9 rfl rfl ?_
  refine s_ifne (pc := 10) (tgt := 17) dX12_hasBy_10 rfl (fun h10 => ?_) (fun h10 => absurd h10 (by decide))
  refine s_iload_n (pc := 17) (i := 3) dX12_hasBy_17 rfl rfl ?_
  refine s_ineg (pc := 18) dX12_hasBy_18 ?_
  refine s_ireturn (pc := 19) dX12_hasBy_19 rfl rfl ?_
  exact hq
theorem c_X12_hasBy_11 {v u : Nat} (hq : Q (.inl (some (.int 0))) σ) : Cn g (d + 0) mX12_hasBy [.int 1, .int 1, .int (nI v), .int (nI u)] σ Q := by
  show Rn g (d + 0) mX12_hasBy 0 [.int 1, .int 1, .int (nI v), .int (nI u)] [] [] σ Q
  refine s_iload_n (pc := 0) (i := 0) dX12_hasBy_0 rfl rfl ?_
  refine s_iload_n (pc := 1) (i := 1) dX12_hasBy_1 rfl rfl ?_
  refine s_icne (pc := 2) (tgt := 9) dX12_hasBy_2 rfl (fun h2 => absurd h2 (by decide)) (fun h2 => ?_)
  refine m_ic (pc := 5) (v := 0) dX12_hasBy_5 rfl ?_
  refine s_goto (pc := 6) (tgt := 19) dX12_hasBy_6 rfl ?_
  refine s_ireturn (pc := 19) dX12_hasBy_19 rfl rfl ?_
  exact hq
theorem c_rest_00 {v u : Nat} (hv : v < 100) (hu : u < 100) (ht : True → Q (.inl (some (.int 1))) σ) (hf : ¬ (True) → Q (.inl (some (.int 0))) σ) : Cn g (d + 1) mX11_isRest [.int 0, .int 0, .int (nI v), .int (nI u)] σ Q := by
  show Rn g (d + 1) mX11_isRest 0 [.int 0, .int 0, .int (nI v), .int (nI u)] [] [] σ Q
  refine s_iload_n (pc := 0) (i := 0) dX11_isRest_0 rfl rfl ?_
  refine s_iload_n (pc := 1) (i := 1) dX11_isRest_1 rfl rfl ?_
  refine s_iload_n (pc := 2) (i := 2) dX11_isRest_2 rfl rfl ?_
  refine s_iload_n (pc := 3) (i := 3) dX11_isRest_3 rfl rfl ?_
  refine m_s4 (pc := 4) dX11_isRest_4 lk_X11_363 ok_X11_hasBy rfl rfl (c_X11_hasBy_00 (kt_s ?_))
  refine m_ic (pc := 7) (v := 1) dX11_isRest_7 rfl ?_
  refine s_iload_n (pc := 8) (i := 0) dX11_isRest_8 rfl rfl ?_
  refine s_isub (pc := 9) dX11_isRest_9 ?_
  refine m_nm (v' := 1) (rfl) ?_
  refine s_iload_n (pc := 10) (i := 1) dX11_isRest_10 rfl rfl ?_
  refine s_iload_n (pc := 11) (i := 2) dX11_isRest_11 rfl rfl ?_
  refine s_iload_n (pc := 12) (i := 3) dX11_isRest_12 rfl rfl ?_
  refine m_s4 (pc := 13) dX11_isRest_13 lk_X11_363 ok_X11_hasBy rfl rfl (c_X11_hasBy_10 (kt_s ?_))
  refine s_iclt (pc := 16) (tgt := 42) dX11_isRest_16 rfl (fun h16 => absurd h16 (ng_0 hu)) (fun h16 => ?_)
  refine s_iload_n (pc := 19) (i := 1) dX11_isRest_19 rfl rfl ?_
  refine s_iload_n (pc := 20) (i := 0) dX11_isRest_20 rfl rfl ?_
  refine s_iload_n (pc := 21) (i := 2) dX11_isRest_21 rfl rfl ?_
  refine s_iload_n (pc := 22) (i := 3) dX11_isRest_22 rfl rfl ?_
  refine m_s4 (pc := 23) dX11_isRest_23 lk_X11_363 ok_X11_hasBy rfl rfl (c_X11_hasBy_00 (kt_s ?_))
  refine m_ic (pc := 26) (v := 1) dX11_isRest_26 rfl ?_
  refine s_iload_n (pc := 27) (i := 1) dX11_isRest_27 rfl rfl ?_
  refine s_isub (pc := 28) dX11_isRest_28 ?_
  refine m_nm (v' := 1) (rfl) ?_
  refine s_iload_n (pc := 29) (i := 0) dX11_isRest_29 rfl rfl ?_
  refine s_iload_n (pc := 30) (i := 2) dX11_isRest_30 rfl rfl ?_
  refine s_iload_n (pc := 31) (i := 3) dX11_isRest_31 rfl rfl ?_
  refine m_s4 (pc := 32) dX11_isRest_32 lk_X11_363 ok_X11_hasBy rfl rfl (c_X11_hasBy_10 (kt_s ?_))
  refine s_iclt (pc := 35) (tgt := 42) dX11_isRest_35 rfl (fun h35 => absurd h35 (ng_0 hu)) (fun h35 => ?_)
  refine m_ic (pc := 38) (v := 1) dX11_isRest_38 rfl ?_
  refine s_goto (pc := 39) (tgt := 43) dX11_isRest_39 rfl ?_
  refine s_ireturn (pc := 43) dX11_isRest_43 rfl rfl ?_
  exact ht trivial
theorem c_rest_01 {v u : Nat} (hv : v < 100) (hu : u < 100) (ht : u = 0 → Q (.inl (some (.int 1))) σ) (hf : ¬ (u = 0) → Q (.inl (some (.int 0))) σ) : Cn g (d + 1) mX11_isRest [.int 0, .int 1, .int (nI v), .int (nI u)] σ Q := by
  show Rn g (d + 1) mX11_isRest 0 [.int 0, .int 1, .int (nI v), .int (nI u)] [] [] σ Q
  refine s_iload_n (pc := 0) (i := 0) dX11_isRest_0 rfl rfl ?_
  refine s_iload_n (pc := 1) (i := 1) dX11_isRest_1 rfl rfl ?_
  refine s_iload_n (pc := 2) (i := 2) dX11_isRest_2 rfl rfl ?_
  refine s_iload_n (pc := 3) (i := 3) dX11_isRest_3 rfl rfl ?_
  refine m_s4 (pc := 4) dX11_isRest_4 lk_X11_363 ok_X11_hasBy rfl rfl (c_X11_hasBy_01 (kt_s ?_))
  refine m_ic (pc := 7) (v := 1) dX11_isRest_7 rfl ?_
  refine s_iload_n (pc := 8) (i := 0) dX11_isRest_8 rfl rfl ?_
  refine s_isub (pc := 9) dX11_isRest_9 ?_
  refine m_nm (v' := 1) (rfl) ?_
  refine s_iload_n (pc := 10) (i := 1) dX11_isRest_10 rfl rfl ?_
  refine s_iload_n (pc := 11) (i := 2) dX11_isRest_11 rfl rfl ?_
  refine s_iload_n (pc := 12) (i := 3) dX11_isRest_12 rfl rfl ?_
  refine m_s4 (pc := 13) dX11_isRest_13 lk_X11_363 ok_X11_hasBy rfl rfl (c_X11_hasBy_11 (kt_s ?_))
  refine s_iclt (pc := 16) (tgt := 42) dX11_isRest_16 rfl (fun h16 => absurd h16 (ng_2 hv)) (fun h16 => ?_)
  refine s_iload_n (pc := 19) (i := 1) dX11_isRest_19 rfl rfl ?_
  refine s_iload_n (pc := 20) (i := 0) dX11_isRest_20 rfl rfl ?_
  refine s_iload_n (pc := 21) (i := 2) dX11_isRest_21 rfl rfl ?_
  refine s_iload_n (pc := 22) (i := 3) dX11_isRest_22 rfl rfl ?_
  refine m_s4 (pc := 23) dX11_isRest_23 lk_X11_363 ok_X11_hasBy rfl rfl (c_X11_hasBy_10 (kt_s ?_))
  refine m_ic (pc := 26) (v := 1) dX11_isRest_26 rfl ?_
  refine s_iload_n (pc := 27) (i := 1) dX11_isRest_27 rfl rfl ?_
  refine s_isub (pc := 28) dX11_isRest_28 ?_
  refine m_nm (v' := 0) (rfl) ?_
  refine s_iload_n (pc := 29) (i := 0) dX11_isRest_29 rfl rfl ?_
  refine s_iload_n (pc := 30) (i := 2) dX11_isRest_30 rfl rfl ?_
  refine s_iload_n (pc := 31) (i := 3) dX11_isRest_31 rfl rfl ?_
  refine m_s4 (pc := 32) dX11_isRest_32 lk_X11_363 ok_X11_hasBy rfl rfl (c_X11_hasBy_00 (kt_s ?_))
  refine s_iclt (pc := 35) (tgt := 42) dX11_isRest_35 rfl (fun h => ?_) (fun h => ?_)
  · have e := (ng_1 hu).mp h
    refine m_ic (pc := 42) (v := 0) dX11_isRest_42 rfl ?_
    refine s_ireturn (pc := 43) dX11_isRest_43 rfl rfl ?_
    exact hf e
  · have e : u = 0 := Decidable.byContradiction (fun z => h ((ng_1 hu).mpr z))
    refine m_ic (pc := 38) (v := 1) dX11_isRest_38 rfl ?_
    refine s_goto (pc := 39) (tgt := 43) dX11_isRest_39 rfl ?_
    refine s_ireturn (pc := 43) dX11_isRest_43 rfl rfl ?_
    exact ht e
theorem c_rest_10 {v u : Nat} (hv : v < 100) (hu : u < 100) (ht : u = 0 → Q (.inl (some (.int 1))) σ) (hf : ¬ (u = 0) → Q (.inl (some (.int 0))) σ) : Cn g (d + 1) mX11_isRest [.int 1, .int 0, .int (nI v), .int (nI u)] σ Q := by
  show Rn g (d + 1) mX11_isRest 0 [.int 1, .int 0, .int (nI v), .int (nI u)] [] [] σ Q
  refine s_iload_n (pc := 0) (i := 0) dX11_isRest_0 rfl rfl ?_
  refine s_iload_n (pc := 1) (i := 1) dX11_isRest_1 rfl rfl ?_
  refine s_iload_n (pc := 2) (i := 2) dX11_isRest_2 rfl rfl ?_
  refine s_iload_n (pc := 3) (i := 3) dX11_isRest_3 rfl rfl ?_
  refine m_s4 (pc := 4) dX11_isRest_4 lk_X11_363 ok_X11_hasBy rfl rfl (c_X11_hasBy_10 (kt_s ?_))
  refine m_ic (pc := 7) (v := 1) dX11_isRest_7 rfl ?_
  refine s_iload_n (pc := 8) (i := 0) dX11_isRest_8 rfl rfl ?_
  refine s_isub (pc := 9) dX11_isRest_9 ?_
  refine m_nm (v' := 0) (rfl) ?_
  refine s_iload_n (pc := 10) (i := 1) dX11_isRest_10 rfl rfl ?_
  refine s_iload_n (pc := 11) (i := 2) dX11_isRest_11 rfl rfl ?_
  refine s_iload_n (pc := 12) (i := 3) dX11_isRest_12 rfl rfl ?_
  refine m_s4 (pc := 13) dX11_isRest_13 lk_X11_363 ok_X11_hasBy rfl rfl (c_X11_hasBy_00 (kt_s ?_))
  refine s_iclt (pc := 16) (tgt := 42) dX11_isRest_16 rfl (fun h => ?_) (fun h => ?_)
  · have e := (ng_1 hu).mp h
    refine m_ic (pc := 42) (v := 0) dX11_isRest_42 rfl ?_
    refine s_ireturn (pc := 43) dX11_isRest_43 rfl rfl ?_
    exact hf e
  · have e : u = 0 := Decidable.byContradiction (fun z => h ((ng_1 hu).mpr z))
    refine s_iload_n (pc := 19) (i := 1) dX11_isRest_19 rfl rfl ?_
    refine s_iload_n (pc := 20) (i := 0) dX11_isRest_20 rfl rfl ?_
    refine s_iload_n (pc := 21) (i := 2) dX11_isRest_21 rfl rfl ?_
    refine s_iload_n (pc := 22) (i := 3) dX11_isRest_22 rfl rfl ?_
    refine m_s4 (pc := 23) dX11_isRest_23 lk_X11_363 ok_X11_hasBy rfl rfl (c_X11_hasBy_01 (kt_s ?_))
    refine m_ic (pc := 26) (v := 1) dX11_isRest_26 rfl ?_
    refine s_iload_n (pc := 27) (i := 1) dX11_isRest_27 rfl rfl ?_
    refine s_isub (pc := 28) dX11_isRest_28 ?_
    refine m_nm (v' := 1) (rfl) ?_
    refine s_iload_n (pc := 29) (i := 0) dX11_isRest_29 rfl rfl ?_
    refine s_iload_n (pc := 30) (i := 2) dX11_isRest_30 rfl rfl ?_
    refine s_iload_n (pc := 31) (i := 3) dX11_isRest_31 rfl rfl ?_
    refine m_s4 (pc := 32) dX11_isRest_32 lk_X11_363 ok_X11_hasBy rfl rfl (c_X11_hasBy_11 (kt_s ?_))
    refine s_iclt (pc := 35) (tgt := 42) dX11_isRest_35 rfl (fun h35 => absurd h35 (ng_2 hv)) (fun h35 => ?_)
    refine m_ic (pc := 38) (v := 1) dX11_isRest_38 rfl ?_
    refine s_goto (pc := 39) (tgt := 43) dX11_isRest_39 rfl ?_
    refine s_ireturn (pc := 43) dX11_isRest_43 rfl rfl ?_
    exact ht e
theorem c_rest_11 {v u : Nat} (hv : v < 100) (hu : u < 100) (ht : v = 0 → Q (.inl (some (.int 1))) σ) (hf : ¬ (v = 0) → Q (.inl (some (.int 0))) σ) : Cn g (d + 1) mX11_isRest [.int 1, .int 1, .int (nI v), .int (nI u)] σ Q := by
  show Rn g (d + 1) mX11_isRest 0 [.int 1, .int 1, .int (nI v), .int (nI u)] [] [] σ Q
  refine s_iload_n (pc := 0) (i := 0) dX11_isRest_0 rfl rfl ?_
  refine s_iload_n (pc := 1) (i := 1) dX11_isRest_1 rfl rfl ?_
  refine s_iload_n (pc := 2) (i := 2) dX11_isRest_2 rfl rfl ?_
  refine s_iload_n (pc := 3) (i := 3) dX11_isRest_3 rfl rfl ?_
  refine m_s4 (pc := 4) dX11_isRest_4 lk_X11_363 ok_X11_hasBy rfl rfl (c_X11_hasBy_11 (kt_s ?_))
  refine m_ic (pc := 7) (v := 1) dX11_isRest_7 rfl ?_
  refine s_iload_n (pc := 8) (i := 0) dX11_isRest_8 rfl rfl ?_
  refine s_isub (pc := 9) dX11_isRest_9 ?_
  refine m_nm (v' := 0) (rfl) ?_
  refine s_iload_n (pc := 10) (i := 1) dX11_isRest_10 rfl rfl ?_
  refine s_iload_n (pc := 11) (i := 2) dX11_isRest_11 rfl rfl ?_
  refine s_iload_n (pc := 12) (i := 3) dX11_isRest_12 rfl rfl ?_
  refine m_s4 (pc := 13) dX11_isRest_13 lk_X11_363 ok_X11_hasBy rfl rfl (c_X11_hasBy_01 (kt_s ?_))
  refine s_iclt (pc := 16) (tgt := 42) dX11_isRest_16 rfl (fun h => ?_) (fun h => ?_)
  · have e := (ng_3 hv).mp h
    refine m_ic (pc := 42) (v := 0) dX11_isRest_42 rfl ?_
    refine s_ireturn (pc := 43) dX11_isRest_43 rfl rfl ?_
    exact hf e
  · have e : v = 0 := Decidable.byContradiction (fun z => h ((ng_3 hv).mpr z))
    refine s_iload_n (pc := 19) (i := 1) dX11_isRest_19 rfl rfl ?_
    refine s_iload_n (pc := 20) (i := 0) dX11_isRest_20 rfl rfl ?_
    refine s_iload_n (pc := 21) (i := 2) dX11_isRest_21 rfl rfl ?_
    refine s_iload_n (pc := 22) (i := 3) dX11_isRest_22 rfl rfl ?_
    refine m_s4 (pc := 23) dX11_isRest_23 lk_X11_363 ok_X11_hasBy rfl rfl (c_X11_hasBy_11 (kt_s ?_))
    refine m_ic (pc := 26) (v := 1) dX11_isRest_26 rfl ?_
    refine s_iload_n (pc := 27) (i := 1) dX11_isRest_27 rfl rfl ?_
    refine s_isub (pc := 28) dX11_isRest_28 ?_
    refine m_nm (v' := 0) (rfl) ?_
    refine s_iload_n (pc := 29) (i := 0) dX11_isRest_29 rfl rfl ?_
    refine s_iload_n (pc := 30) (i := 2) dX11_isRest_30 rfl rfl ?_
    refine s_iload_n (pc := 31) (i := 3) dX11_isRest_31 rfl rfl ?_
    refine m_s4 (pc := 32) dX11_isRest_32 lk_X11_363 ok_X11_hasBy rfl rfl (c_X11_hasBy_01 (kt_s ?_))
    refine s_iclt (pc := 35) (tgt := 42) dX11_isRest_35 rfl (fun h35 => absurd h35 (fun z => absurd ((ng_3 hv).mp z) (by omega))) (fun h35 => ?_)
    refine m_ic (pc := 38) (v := 1) dX11_isRest_38 rfl ?_
    refine s_goto (pc := 39) (tgt := 43) dX11_isRest_39 rfl ?_
    refine s_ireturn (pc := 43) dX11_isRest_43 rfl rfl ?_
    exact ht e
end S
