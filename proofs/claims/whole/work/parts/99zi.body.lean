section S
variable {g : aG} {d : Nat} {I : Nat → Nat → Int32} {J : Nat → Nat → Int64} {n w : Nat} {Q : aO → aS → Prop}
def I00 : Nat → Nat → Int32 := fun _ _ => 0
def Im : Nat → Nat → Int32 := up (up (up (up (Ic I00) 534 8 (-1)) 534 14 0) 534 15 0) 534 16 20
def x00 : gX := ((fun _ => 0, 0, -1), (d0, uL, sE, (fun _ => none), 0, 0), (0, (fun _ => sE), 0, (fun _ => 0), (fun _ => sE), fun _ _ => sE), 0, 0)
theorem d0_ok : cOk d0 := ⟨Nat.zero_le _, Nat.zero_le _, ⟨by decide, by decide⟩, fun b hb => absurd hb (Nat.not_lt_zero _), fun c hc => absurd hc (Nat.not_lt_zero _)⟩
theorem zI_0 {L : Nat} : zI L I00 := fun _ _ _ => rfl
theorem zI_c : zI 25 (Ic I00) := by
  unfold Ic
  exact zI_u (zI_f (zI_u (zI_f (zI_us (zI_us (zI_u (zI_u (zI_u zI_0 (by omega)) (by omega)) (by omega)) (by omega)) (by omega)) (by omega)) (by omega)) (by omega)) (by omega)
theorem zI_i : zI 534 Im := zI_u (zI_u (zI_u (zI_u (zI_m zI_c (by omega)) (by omega)) (by omega)) (by omega)) (by omega)
theorem zI_s {j : Nat} : stM Im 560 j = 0 := by
  unfold stM nwI
  rw [if_neg (by omega), fl_x (by omega), up_n3 (by omega), up_n3 (by omega), up_n3 (by omega), up_n3 (by omega), up_n3 (by omega), cp_ne (by omega), cp_ne (by omega), up_n3 (by omega), up_n3 (by omega), up_n3 (by omega)]
  exact zI_i 560 j (by omega)
theorem x00_ok : gOk x00 := ⟨fun b v e => (by cases e), Nat.zero_le _, Nat.zero_le _, fun i hi => absurd hi (Nat.not_lt_zero _), Nat.zero_le _, fun i hi => absurd hi (Nat.not_lt_zero _)⟩
theorem cI_c : cI x00 (Ic I00) := by
  refine ⟨⟨⟨Nat.zero_le _, ?_, fun i hi => absurd hi (Nat.not_lt_zero _)⟩, ?_⟩, ⟨⟨⟨?_, ?_, ?_, fun b hb => absurd hb (Nat.not_lt_zero _), fun c hc => absurd hc (Nat.not_lt_zero _)⟩, d0_ok, ⟨?_, fun i hi => ?_⟩, uL_ok, ⟨fun b hb => ?_, fun b c k _ _ e => (by cases e), fun c hc => ?_, ?_, ?_, ?_⟩, sE_ok⟩, ⟨?_, fun b hb => ?_⟩, ?_⟩, ⟨?_, fun i hi => absurd hi (Nat.not_lt_zero _), ?_, fun i hi => absurd hi (Nat.not_lt_zero _)⟩, ?_, ?_⟩
  · show Ic I00 2 1 = nI 0; simp [Ic, up, flI, usL, I00]; rfl
  · show Ic I00 2 7 = -1; simp [Ic, up, flI, usL]
  · show Ic I00 4 4 = nI 0; simp [Ic, up, flI, usL, I00]; rfl
  · show Ic I00 4 5 = nI 0; simp [Ic, up, flI, usL, I00]; rfl
  · show Ic I00 4 6 = nI 20; simp [Ic, up, flI, usL]; rfl
  · show Ic I00 14 3 = nI 5; simp [Ic, up, flI, usL]
  · have hi : i < 5 := hi
    rcases (show i = 0 ∨ i = 1 ∨ i = 2 ∨ i = 3 ∨ i = 4 by omega) with rfl | rfl | rfl | rfl | rfl <;> (simp [Ic, up, flI, usL]; rfl)
  · refine ⟨?_, ?_, ?_, ?_⟩
    · show Ic I00 34 b = nI 0; exact zI_c _ _ (by omega)
    · exact zI_c _ _ (by omega)
    · exact zI_c _ _ (by omega)
    · show Ic I00 37 b = nI (bs (fun c => false) 12); exact zI_c _ _ (by omega)
  · exact zI_c _ _ (by omega)
  · show Ic I00 33 6 = nI (bs (fun c => false) 7); exact zI_c _ _ (by omega)
  · exact zI_c _ _ (by omega)
  · exact zI_c _ _ (by omega)
  · show Ic I00 22 1 = nI 0; simp [Ic, up, flI]; rfl
  · show Ic I00 23 b = -1; simp [Ic, up, flI, hb]
  · show Ic I00 1 16 = 0; simp [Ic, up, flI, usL, I00]
  · exact zI_c _ _ (by omega)
  · show Ic I00 1 15 = nI 0; simp [Ic, up, flI, usL, I00]; rfl
  · show Ic I00 1 17 = 0; simp [Ic, up, flI, usL, I00]
  · show Ic I00 1 18 = 0; simp [Ic, up, flI, usL, I00]
theorem Im_f {a j : Nat} (h : a ≠ 534) : Im a j = Ic I00 a j := (up_a h).trans ((up_a h).trans ((up_a h).trans (up_a h)))
theorem cI_s : cI x00 (stM Im) := cI_m x00_ok cI_c (fun a j h => (stM_f (by omega)).trans (Im_f (by omega)))
theorem mI_s : mI x00 (stM Im) := by
  refine ⟨⟨(stM_f (by omega)).trans ?_, Nat.zero_le _, fun i hi => absurd hi (Nat.not_lt_zero _), (stM_f (by omega)).trans ?_⟩, stM_W ⟨?_, ?_, ?_, fun b hb => absurd hb (Nat.not_lt_zero _), fun c hc => absurd hc (Nat.not_lt_zero _)⟩ d0_ok, stM_P, (stM_f (by omega)).trans ?_, (stM_f (by omega)).trans ?_⟩
  · show Im 534 2 = nI 0
    rw [Im, up_k (by decide), up_k (by decide), up_k (by decide), up_k (by decide)]; exact zI_c _ _ (by omega)
  · show Im 534 8 = -1
    rw [Im, up_k (by decide), up_k (by decide), up_k (by decide), up_s]
  · show Im 534 14 = nI 0
    rw [Im, up_k (by decide), up_k (by decide), up_s]; rfl
  · show Im 534 15 = nI 0
    rw [Im, up_k (by decide), up_s]; rfl
  · show Im 534 16 = nI 20
    rw [Im, up_s]; rfl
  · exact (Im_f (by omega)).trans (zI_c _ _ (by omega))
  · exact (Im_f (by omega)).trans (zI_c _ _ (by omega))
theorem law_body (hN : aNx g) (hL2 : gL g ≤ 5120) (hq : ∀ σ, Q (.inl (some (.int 1))) σ) : Rn g (d + 40) mL_law_ 0 [.ref 0, .retAddr 0, .retAddr 0, .retAddr 0, .retAddr 0, .retAddr 0, .retAddr 0, .retAddr 0] [] [] (Kz I00 J0 R0 0 0) Q := by
  refine k_new (pc := 0) (ci := 11) (L' := 1) (w' := 19) dL_law__0 kl_L_8 (by decide) (by decide +kernel) rfl rfl (by omega) (fun j => rfl) ?_
  refine s_dup (pc := 3) dL_law__3 rfl ?_
  refine m_i0 (pc := 4) dL_law__4 lk_L_119 ok_X11_init rfl rfl (kc_X11_init (w := 19) zI_0 (by omega) (kt_v ?_))
  refine s_astore_n (pc := 7) (i := 1) dL_law__7 rfl (Nat.le_of_ble_eq_true rfl) ?_
  dsimp only [List.set, List.filter]
  refine k_new (pc := 8) (ci := 12) (L' := 534) (w' := 11363) dL_law__8 kl_L_120 (by decide) (by decide +kernel) rfl rfl (by omega) (fun j => zI_c _ _ (by omega)) ?_
  refine s_dup (pc := 11) dL_law__11 rfl ?_
  refine m_i0 (pc := 12) dL_law__12 lk_L_122 ok_X12_init rfl rfl (kc_X12_init (w := 11363) (zI_m zI_c (by omega)) (by omega) (kt_v ?_))
  refine s_astore_n (pc := 15) (i := 2) dL_law__15 rfl (Nat.le_of_ble_eq_true rfl) ?_
  dsimp only [List.set, List.filter]
  refine m_ic (pc := 16) (v := 1) dL_law__16 rfl ?_
  refine k_na (pc := 17) (t := 66) (n := 1) (L' := 560) (w' := 23350) dL_law__17 rfl (Or.inr (Or.inr rfl)) ac_long (by decide) rfl (by decide) (by decide +kernel) (by decide +kernel) rfl rfl (by omega) (fun j => zI_s) (fun j => r0_nil (by decide +kernel)) ?_
  refine s_astore_n (pc := 19) (i := 3) dL_law__19 rfl (Nat.le_of_ble_eq_true rfl) ?_
  dsimp only [List.set, List.filter]
  refine m_ic (pc := 20) (v := 0) dL_law__20 rfl ?_
  refine s_istore (pc := 21) (i := 4) dL_law__21 (Nat.le_of_ble_eq_true rfl) ?_
  dsimp only [List.set, List.filter]
  exact lw_lp hN hL2 hq 513 0 x00 (stM Im) J0 560 23350 _ _ _ _ rfl x00_ok cI_s mI_s (by omega) (by omega)
end S
