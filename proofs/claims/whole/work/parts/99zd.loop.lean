section S
variable {g : aG} {d : Nat} {I : Nat → Nat → Int32} {J : Nat → Nat → Int64} {n w : Nat} {Q : aO → aS → Prop}
variable {y : aM} {pc : Nat} {l : List Value} {st : List Value} {σ : aS}
theorem Rn_ll {ll : List (Nat × Int64)} (k : Rn g d y pc l [] st σ Q) : Rn g d y pc l ll st σ Q := by
  intro p e R s m args below meth c H locs cells slots ls nc0 ns0 X
  have h := X.2.2.2.1
  exact k _ _ _ _ _ _ _ _ _ _ _ _ _ _ _ _ ⟨X.1, X.2.1, X.2.2.1, ⟨h.1, h.2.1, h.2.2.1, h.2.2.2.1, h.2.2.2.2.1, fun q hq => absurd hq List.not_mem_nil⟩, X.2.2.2.2⟩
theorem lw_lp (hN : aNx g) (hL2 : gL g ≤ 5120) (hq : ∀ σ, Q (.inl (some (.int 1))) σ) : ∀ f q (x : gX) (I : Nat → Nat → Int32) (J : Nat → Nat → Int64) (n w : Nat) (v5 v6 v7 : Value) (ll : List (Nat × Int64)), q + f = 513 → gOk x → cI x I → mI x I → n ≤ 600 + q → w ≤ 100000 + 6 * q → Rn g (d + 40) mL_law_ 23 [.ref 0, .ref 1, .ref 534, .ref 560, .int (nI (10 * q)), v5, v6, v7] ll [] (Z I J n w) Q := by
  intro f
  induction f with
  | zero =>
    intro q x I J n w v5 v6 v7 ll hqf hx hc hm hn hw
    refine Rn_ll ?_
    refine s_iload (pc := 23) (i := 4) dL_law__23 rfl ?_
    refine s_aload_n (pc := 25) (i := 0) dL_law__25 rfl rfl ?_
    refine s_slen (pc := 26) dL_law__26 ?_
    refine m_bi (pc := 27) (v := 10) dL_law__27 rfl ?_
    refine s_isub (pc := 29) dL_law__29 ?_
    refine m_nm (v' := iR ((gL g : Int) - (10 : Nat))) (iR_sub (gL g : Int) 10) ?_
    refine s_icgt (pc := 30) (tgt := 2698) dL_law__30 rfl (fun h30 => ?_) (fun h30 => ?_)
    · refine m_ic (pc := 2698) (v := 1) dL_law__2698 rfl ?_
      exact s_ireturn (pc := 2699) dL_law__2699 rfl rfl (hq _)
    · exact absurd ((iR_lt (x := (gL g : Int) - (10 : Nat)) (a := 10 * q) (by omega) (by omega) (by omega)).mpr (by omega)) h30
  | succ f ih =>
    intro q x I J n w v5 v6 v7 ll hqf hx hc hm hn hw
    refine Rn_ll ?_
    refine s_iload (pc := 23) (i := 4) dL_law__23 rfl ?_
    refine s_aload_n (pc := 25) (i := 0) dL_law__25 rfl rfl ?_
    refine s_slen (pc := 26) dL_law__26 ?_
    refine m_bi (pc := 27) (v := 10) dL_law__27 rfl ?_
    refine s_isub (pc := 29) dL_law__29 ?_
    refine m_nm (v' := iR ((gL g : Int) - (10 : Nat))) (iR_sub (gL g : Int) 10) ?_
    refine s_icgt (pc := 30) (tgt := 2698) dL_law__30 rfl (fun h30 => ?_) (fun h30 => ?_)
    · refine m_ic (pc := 2698) (v := 1) dL_law__2698 rfl ?_
      exact s_ireturn (pc := 2699) dL_law__2699 rfl rfl (hq _)
    · have hL : 10 * q + 10 ≤ gL g := by
        by_cases z : 10 * q + 10 ≤ gL g
        · exact z
        · exact absurd ((iR_lt (x := (gL g : Int) - (10 : Nat)) (a := 10 * q) (by omega) (by omega) (by omega)).mpr (by omega)) h30
      have hn1 : n + 1 ≤ 600000 ∧ w + 6 ≤ 7000000 := ⟨by omega, by omega⟩
      have hK : ∀ (x' : gX) (I' : Nat → Nat → Int32) (J' : Nat → Nat → Int64) (n' w' : Nat) (v5 v6 v7 : Value) (ll : List (Nat × Int64)), gOk x' → cI x' I' → mI x' I' → n' ≤ n + 1 → w' ≤ w + 6 → Rn g (d + 40) mL_law_ 2692 [.ref 0, .ref 1, .ref 534, .ref 560, .int (nI (10 * q)), v5, v6, v7] ll [] (Z I' J' n' w') Q := by
        intro x' I' J' n' w' v5 v6 v7 ll hx' hc' hm' hn' hw'
        refine m_inc (pc := 2692) (v := 10) dL_law__2692 rfl rfl ?_
        dsimp only [List.set]
        rw [show nI (10 * q) + (10 : Int32) = nI (10 * (q + 1)) from (nI_add (10 * q) 10)]
        refine s_goto (pc := 2695) (tgt := 23) dL_law__2695 rfl ?_
        exact ih (q + 1) x' I' J' n' w' _ _ _ _ (by omega) hx' hc' hm' (by omega) (by omega)
      refine s_aload_n (pc := 33) (i := 0) dL_law__33 rfl rfl ?_
      refine s_iload (pc := 34) (i := 4) dL_law__34 rfl ?_
      refine s_sld (pc := 36) dL_law__36 (vp_in_nI (n := 10 * q) (by omega) (by omega)) ?_
      refine m_bi (pc := 37) (v := 63) dL_law__37 rfl ?_
      refine s_iand (pc := 39) dL_law__39 ?_
      obtain ⟨c, hc64, ec⟩ := pk_andE (gx g (nI (10 * q)).toNatClampNeg) (m := 63) 6 (by decide)
      refine m_nm (v' := nI c) ec ?_
      have hc64 : c < 64 := hc64
      rcases (show c = 0 ∨ c = 1 ∨ c = 2 ∨ c = 3 ∨ c = 4 ∨ c = 5 ∨ c = 6 ∨ c = 7 ∨ c = 8 ∨ c = 9 ∨ c = 10 ∨ c = 11 ∨ c = 12 ∨ c = 13 ∨ c = 14 ∨ c = 15 ∨ c = 16 ∨ c = 17 ∨ c = 18 ∨ c = 19 ∨ c = 20 ∨ c = 21 ∨ c = 22 ∨ c = 23 ∨ c = 24 ∨ c = 25 ∨ c = 26 ∨ c = 27 ∨ c = 28 ∨ c = 29 ∨ c = 30 ∨ c = 31 ∨ c = 32 ∨ c = 33 ∨ c = 34 ∨ c = 35 ∨ c = 36 ∨ c = 37 ∨ c = 38 ∨ c = 39 ∨ c = 40 ∨ c = 41 ∨ c = 42 ∨ c = 43 ∨ c = 44 ∨ c = 45 ∨ c = 46 ∨ c = 47 ∨ c = 48 ∨ c = 49 ∨ c = 50 ∨ c = 51 ∨ c = 52 ∨ c = 53 ∨ c = 54 ∨ c = 55 ∨ c = 56 ∨ c = 57 ∨ c = 58 ∨ c = 59 ∨ c = 60 ∨ c = 61 ∨ c = 62 ∨ c = 63 from by omega) with qe | qe | qe | qe | qe | qe | qe | qe | qe | qe | qe | qe | qe | qe | qe | qe | qe | qe | qe | qe | qe | qe | qe | qe | qe | qe | qe | qe | qe | qe | qe | qe | qe | qe | qe | qe | qe | qe | qe | qe | qe | qe | qe | qe | qe | qe | qe | qe | qe | qe | qe | qe | qe | qe | qe | qe | qe | qe | qe | qe | qe | qe | qe | qe
      · subst qe
        refine m_nm (v' := 0) rfl ?_
        refine s_tabIn (pc := 40) (tgt := 216) dL_law__40 (by decide) (by decide) rfl rfl ?_
        exact lw_0 hN hL hL2 hx hc hm hn1 hK
      · subst qe
        refine m_nm (v' := 1) rfl ?_
        refine s_tabIn (pc := 40) (tgt := 289) dL_law__40 (by decide) (by decide) rfl rfl ?_
        exact lw_1 hN hL hL2 hx hc hm hn1 hK
      · subst qe
        refine m_nm (v' := 2) rfl ?_
        refine s_tabIn (pc := 40) (tgt := 345) dL_law__40 (by decide) (by decide) rfl rfl ?_
        exact lw_2 hN hL hL2 hx hc hm hn1 hK
      · subst qe
        refine m_nm (v' := 3) rfl ?_
        refine s_tabIn (pc := 40) (tgt := 401) dL_law__40 (by decide) (by decide) rfl rfl ?_
        exact lw_3 hN hL hL2 hx hc hm hn1 hK
      · subst qe
        refine m_nm (v' := 4) rfl ?_
        refine s_tabIn (pc := 40) (tgt := 457) dL_law__40 (by decide) (by decide) rfl rfl ?_
        exact lw_4 hN hL hL2 hx hc hm hn1 hK
      · subst qe
        refine m_nm (v' := 5) rfl ?_
        refine s_tabIn (pc := 40) (tgt := 513) dL_law__40 (by decide) (by decide) rfl rfl ?_
        exact lw_5 hN hL hL2 hx hc hm hn1 hK
      · subst qe
        refine m_nm (v' := 6) rfl ?_
        refine s_tabIn (pc := 40) (tgt := 526) dL_law__40 (by decide) (by decide) rfl rfl ?_
        exact lw_6 hN hL hL2 hx hc hm hn1 hK
      · subst qe
        refine m_nm (v' := 7) rfl ?_
        refine s_tabIn (pc := 40) (tgt := 539) dL_law__40 (by decide) (by decide) rfl rfl ?_
        exact lw_7 hN hL hL2 hx hc hm hn1 hK
      · subst qe
        refine m_nm (v' := 8) rfl ?_
        refine s_tabIn (pc := 40) (tgt := 595) dL_law__40 (by decide) (by decide) rfl rfl ?_
        exact lw_8 hN hL hL2 hx hc hm hn1 hK
      · subst qe
        refine m_nm (v' := 9) rfl ?_
        refine s_tabIn (pc := 40) (tgt := 663) dL_law__40 (by decide) (by decide) rfl rfl ?_
        exact lw_9 hN hL hL2 hx hc hm hn1 hK
      · subst qe
        refine m_nm (v' := 10) rfl ?_
        refine s_tabIn (pc := 40) (tgt := 731) dL_law__40 (by decide) (by decide) rfl rfl ?_
        exact lw_10 hN hL hL2 hx hc hm hn1 hK
      · subst qe
        refine m_nm (v' := 11) rfl ?_
        refine s_tabIn (pc := 40) (tgt := 799) dL_law__40 (by decide) (by decide) rfl rfl ?_
        exact lw_11 hN hL hL2 hx hc hm hn1 hK
      · subst qe
        refine m_nm (v' := 12) rfl ?_
        refine s_tabIn (pc := 40) (tgt := 867) dL_law__40 (by decide) (by decide) rfl rfl ?_
        exact lw_12 hN hL hL2 hx hc hm hn1 hK
      · subst qe
        refine m_nm (v' := 13) rfl ?_
        refine s_tabIn (pc := 40) (tgt := 935) dL_law__40 (by decide) (by decide) rfl rfl ?_
        exact lw_13 hN hL hL2 hx hc hm hn1 hK
      · subst qe
        refine m_nm (v' := 14) rfl ?_
        refine s_tabIn (pc := 40) (tgt := 1095) dL_law__40 (by decide) (by decide) rfl rfl ?_
        exact lw_14 hN hL hL2 hx hc hm hn1 hK
      · subst qe
        refine m_nm (v' := 15) rfl ?_
        refine s_tabIn (pc := 40) (tgt := 1163) dL_law__40 (by decide) (by decide) rfl rfl ?_
        exact lw_15 hN hL hL2 hx hc hm hn1 hK
      · subst qe
        refine m_nm (v' := 16) rfl ?_
        refine s_tabIn (pc := 40) (tgt := 1219) dL_law__40 (by decide) (by decide) rfl rfl ?_
        exact lw_16 hN hL hL2 hx hc hm hn1 hK
      · subst qe
        refine m_nm (v' := 17) rfl ?_
        refine s_tabIn (pc := 40) (tgt := 1275) dL_law__40 (by decide) (by decide) rfl rfl ?_
        exact lw_17 hN hL hL2 hx hc hm hn1 hK
      · subst qe
        refine m_nm (v' := 18) rfl ?_
        refine s_tabIn (pc := 40) (tgt := 1343) dL_law__40 (by decide) (by decide) rfl rfl ?_
        exact lw_18 hN hL hL2 hx hc hm hn1 hK
      · subst qe
        refine m_nm (v' := 19) rfl ?_
        refine s_tabIn (pc := 40) (tgt := 1399) dL_law__40 (by decide) (by decide) rfl rfl ?_
        exact lw_19 hN hL hL2 hx hc hm hn1 hK
      · subst qe
        refine m_nm (v' := 20) rfl ?_
        refine s_tabIn (pc := 40) (tgt := 1467) dL_law__40 (by decide) (by decide) rfl rfl ?_
        exact lw_20 hN hL hL2 hx hc hm hn1 hK
      · subst qe
        refine m_nm (v' := 21) rfl ?_
        refine s_tabIn (pc := 40) (tgt := 1523) dL_law__40 (by decide) (by decide) rfl rfl ?_
        exact lw_21 hN hL hL2 hx hc hm hn1 hK
      · subst qe
        refine m_nm (v' := 22) rfl ?_
        refine s_tabIn (pc := 40) (tgt := 1579) dL_law__40 (by decide) (by decide) rfl rfl ?_
        exact lw_22 hN hL hL2 hx hc hm hn1 hK
      · subst qe
        refine m_nm (v' := 23) rfl ?_
        refine s_tabIn (pc := 40) (tgt := 1647) dL_law__40 (by decide) (by decide) rfl rfl ?_
        exact lw_23 hN hL hL2 hx hc hm hn1 hK
      · subst qe
        refine m_nm (v' := 24) rfl ?_
        refine s_tabIn (pc := 40) (tgt := 1738) dL_law__40 (by decide) (by decide) rfl rfl ?_
        exact lw_24 hN hL hL2 hx hc hm hn1 hK
      · subst qe
        refine m_nm (v' := 25) rfl ?_
        refine s_tabIn (pc := 40) (tgt := 1818) dL_law__40 (by decide) (by decide) rfl rfl ?_
        exact lw_25 hN hL hL2 hx hc hm hn1 hK
      · subst qe
        refine m_nm (v' := 26) rfl ?_
        refine s_tabIn (pc := 40) (tgt := 1898) dL_law__40 (by decide) (by decide) rfl rfl ?_
        exact lw_26 hN hL hL2 hx hc hm hn1 hK
      · subst qe
        refine m_nm (v' := 27) rfl ?_
        refine s_tabIn (pc := 40) (tgt := 1954) dL_law__40 (by decide) (by decide) rfl rfl ?_
        exact lw_27 hN hL hL2 hx hc hm hn1 hK
      · subst qe
        refine m_nm (v' := 28) rfl ?_
        refine s_tabIn (pc := 40) (tgt := 2022) dL_law__40 (by decide) (by decide) rfl rfl ?_
        exact lw_28 hN hL hL2 hx hc hm hn1 hK
      · subst qe
        refine m_nm (v' := 29) rfl ?_
        refine s_tabIn (pc := 40) (tgt := 2078) dL_law__40 (by decide) (by decide) rfl rfl ?_
        exact lw_29 hN hL hL2 hx hc hm hn1 hK
      · subst qe
        refine m_nm (v' := 30) rfl ?_
        refine s_tabIn (pc := 40) (tgt := 2146) dL_law__40 (by decide) (by decide) rfl rfl ?_
        exact lw_30 hN hL hL2 hx hc hm hn1 hK
      · subst qe
        refine m_nm (v' := 31) rfl ?_
        refine s_tabIn (pc := 40) (tgt := 2214) dL_law__40 (by decide) (by decide) rfl rfl ?_
        exact lw_31 hN hL hL2 hx hc hm hn1 hK
      · subst qe
        refine m_nm (v' := 32) rfl ?_
        refine s_tabIn (pc := 40) (tgt := 2270) dL_law__40 (by decide) (by decide) rfl rfl ?_
        exact lw_32 hN hL hL2 hx hc hm hn1 hK
      · subst qe
        refine m_nm (v' := 33) rfl ?_
        refine s_tabIn (pc := 40) (tgt := 2338) dL_law__40 (by decide) (by decide) rfl rfl ?_
        exact lw_33 hN hL hL2 hx hc hm hn1 hK
      · subst qe
        refine m_nm (v' := 34) rfl ?_
        refine s_tabIn (pc := 40) (tgt := 2406) dL_law__40 (by decide) (by decide) rfl rfl ?_
        exact lw_34 hN hL hL2 hx hc hm hn1 hK
      · subst qe
        refine m_nm (v' := 35) rfl ?_
        refine s_tabIn (pc := 40) (tgt := 2498) dL_law__40 (by decide) (by decide) rfl rfl ?_
        exact lw_35 hN hL hL2 hx hc hm hn1 hK
      · subst qe
        refine m_nm (v' := 36) rfl ?_
        refine s_tabIn (pc := 40) (tgt := 2616) dL_law__40 (by decide) (by decide) rfl rfl ?_
        exact lw_36 hN hL hL2 hx hc hm hn1 hK
      · subst qe
        refine m_nm (v' := 37) rfl ?_
        refine s_tabIn (pc := 40) (tgt := 2629) dL_law__40 (by decide) (by decide) rfl rfl ?_
        exact lw_37 hN hL hL2 hx hc hm hn1 hK
      · subst qe
        refine m_nm (v' := 38) rfl ?_
        refine s_tabIn (pc := 40) (tgt := 2642) dL_law__40 (by decide) (by decide) rfl rfl ?_
        exact lw_38 hN hL hL2 hx hc hm hn1 hK
      · subst qe
        refine m_nm (v' := 39) rfl ?_
        refine s_tabIn (pc := 40) (tgt := 2667) dL_law__40 (by decide) (by decide) rfl rfl ?_
        exact lw_39 hN hL hL2 hx hc hm hn1 hK
      · subst qe
        refine m_nm (v' := 40) rfl ?_
        refine s_tabOut (pc := 40) (tgt := 2692) dL_law__40 (by decide) rfl ?_
        exact hK x I J n w _ _ _ _ hx hc hm (by omega) (by omega)
      · subst qe
        refine m_nm (v' := 41) rfl ?_
        refine s_tabOut (pc := 40) (tgt := 2692) dL_law__40 (by decide) rfl ?_
        exact hK x I J n w _ _ _ _ hx hc hm (by omega) (by omega)
      · subst qe
        refine m_nm (v' := 42) rfl ?_
        refine s_tabOut (pc := 40) (tgt := 2692) dL_law__40 (by decide) rfl ?_
        exact hK x I J n w _ _ _ _ hx hc hm (by omega) (by omega)
      · subst qe
        refine m_nm (v' := 43) rfl ?_
        refine s_tabOut (pc := 40) (tgt := 2692) dL_law__40 (by decide) rfl ?_
        exact hK x I J n w _ _ _ _ hx hc hm (by omega) (by omega)
      · subst qe
        refine m_nm (v' := 44) rfl ?_
        refine s_tabOut (pc := 40) (tgt := 2692) dL_law__40 (by decide) rfl ?_
        exact hK x I J n w _ _ _ _ hx hc hm (by omega) (by omega)
      · subst qe
        refine m_nm (v' := 45) rfl ?_
        refine s_tabOut (pc := 40) (tgt := 2692) dL_law__40 (by decide) rfl ?_
        exact hK x I J n w _ _ _ _ hx hc hm (by omega) (by omega)
      · subst qe
        refine m_nm (v' := 46) rfl ?_
        refine s_tabOut (pc := 40) (tgt := 2692) dL_law__40 (by decide) rfl ?_
        exact hK x I J n w _ _ _ _ hx hc hm (by omega) (by omega)
      · subst qe
        refine m_nm (v' := 47) rfl ?_
        refine s_tabOut (pc := 40) (tgt := 2692) dL_law__40 (by decide) rfl ?_
        exact hK x I J n w _ _ _ _ hx hc hm (by omega) (by omega)
      · subst qe
        refine m_nm (v' := 48) rfl ?_
        refine s_tabOut (pc := 40) (tgt := 2692) dL_law__40 (by decide) rfl ?_
        exact hK x I J n w _ _ _ _ hx hc hm (by omega) (by omega)
      · subst qe
        refine m_nm (v' := 49) rfl ?_
        refine s_tabOut (pc := 40) (tgt := 2692) dL_law__40 (by decide) rfl ?_
        exact hK x I J n w _ _ _ _ hx hc hm (by omega) (by omega)
      · subst qe
        refine m_nm (v' := 50) rfl ?_
        refine s_tabOut (pc := 40) (tgt := 2692) dL_law__40 (by decide) rfl ?_
        exact hK x I J n w _ _ _ _ hx hc hm (by omega) (by omega)
      · subst qe
        refine m_nm (v' := 51) rfl ?_
        refine s_tabOut (pc := 40) (tgt := 2692) dL_law__40 (by decide) rfl ?_
        exact hK x I J n w _ _ _ _ hx hc hm (by omega) (by omega)
      · subst qe
        refine m_nm (v' := 52) rfl ?_
        refine s_tabOut (pc := 40) (tgt := 2692) dL_law__40 (by decide) rfl ?_
        exact hK x I J n w _ _ _ _ hx hc hm (by omega) (by omega)
      · subst qe
        refine m_nm (v' := 53) rfl ?_
        refine s_tabOut (pc := 40) (tgt := 2692) dL_law__40 (by decide) rfl ?_
        exact hK x I J n w _ _ _ _ hx hc hm (by omega) (by omega)
      · subst qe
        refine m_nm (v' := 54) rfl ?_
        refine s_tabOut (pc := 40) (tgt := 2692) dL_law__40 (by decide) rfl ?_
        exact hK x I J n w _ _ _ _ hx hc hm (by omega) (by omega)
      · subst qe
        refine m_nm (v' := 55) rfl ?_
        refine s_tabOut (pc := 40) (tgt := 2692) dL_law__40 (by decide) rfl ?_
        exact hK x I J n w _ _ _ _ hx hc hm (by omega) (by omega)
      · subst qe
        refine m_nm (v' := 56) rfl ?_
        refine s_tabOut (pc := 40) (tgt := 2692) dL_law__40 (by decide) rfl ?_
        exact hK x I J n w _ _ _ _ hx hc hm (by omega) (by omega)
      · subst qe
        refine m_nm (v' := 57) rfl ?_
        refine s_tabOut (pc := 40) (tgt := 2692) dL_law__40 (by decide) rfl ?_
        exact hK x I J n w _ _ _ _ hx hc hm (by omega) (by omega)
      · subst qe
        refine m_nm (v' := 58) rfl ?_
        refine s_tabOut (pc := 40) (tgt := 2692) dL_law__40 (by decide) rfl ?_
        exact hK x I J n w _ _ _ _ hx hc hm (by omega) (by omega)
      · subst qe
        refine m_nm (v' := 59) rfl ?_
        refine s_tabOut (pc := 40) (tgt := 2692) dL_law__40 (by decide) rfl ?_
        exact hK x I J n w _ _ _ _ hx hc hm (by omega) (by omega)
      · subst qe
        refine m_nm (v' := 60) rfl ?_
        refine s_tabOut (pc := 40) (tgt := 2692) dL_law__40 (by decide) rfl ?_
        exact hK x I J n w _ _ _ _ hx hc hm (by omega) (by omega)
      · subst qe
        refine m_nm (v' := 61) rfl ?_
        refine s_tabOut (pc := 40) (tgt := 2692) dL_law__40 (by decide) rfl ?_
        exact hK x I J n w _ _ _ _ hx hc hm (by omega) (by omega)
      · subst qe
        refine m_nm (v' := 62) rfl ?_
        refine s_tabOut (pc := 40) (tgt := 2692) dL_law__40 (by decide) rfl ?_
        exact hK x I J n w _ _ _ _ hx hc hm (by omega) (by omega)
      · subst qe
        refine m_nm (v' := 63) rfl ?_
        refine s_tabOut (pc := 40) (tgt := 2692) dL_law__40 (by decide) rfl ?_
        exact hK x I J n w _ _ _ _ hx hc hm (by omega) (by omega)
end S
