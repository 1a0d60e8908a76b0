section Mk
/-- which references the cells hold once both constructors are through -/
def R0l : List (List (Option Nat)) := [[], [some 2, some 4, some 9, some 14, some 18, some 22, some 24, some 26, some 31, some 32, some 33, some 153, some 517, some 524, some 526], [some 3], [], [some 5, some 6, some 7, some 8], [], [], [], [], [some 10, some 11, some 12, some 13], [], [], [], [], [some 15, some 16, some 17], [], [], [], [some 19, some 20, some 21], [], [], [], [some 23], [], [some 25], [], [some 27, some 28, some 29, some 30], [], [], [], [], [some 4, some 14], [some 33, some 40], [some 34, some 35, some 36, some 37, some 38, some 39], [], [], [], [], [], [], [some 41, some 48, some 55, some 62, some 69, some 76, some 83, some 90, some 97, some 104, some 111, some 118, some 125, some 132, some 139, some 146], [some 42, some 43, some 44, some 45, some 46, some 47], [], [], [], [], [], [], [some 49, some 50, some 51, some 52, some 53, some 54], [], [], [], [], [], [], [some 56, some 57, some 58, some 59, some 60, some 61], [], [], [], [], [], [], [some 63, some 64, some 65, some 66, some 67, some 68], [], [], [], [], [], [], [some 70, some 71, some 72, some 73, some 74, some 75], [], [], [], [], [], [], [some 77, some 78, some 79, some 80, some 81, some 82], [], [], [], [], [], [], [some 84, some 85, some 86, some 87, some 88, some 89], [], [], [], [], [], [], [some 91, some 92, some 93, some 94, some 95, some 96], [], [], [], [], [], [], [some 98, some 99, some 100, some 101, some 102, some 103], [], [], [], [], [], [], [some 105, some 106, some 107, some 108, some 109, some 110], [], [], [], [], [], [], [some 112, some 113, some 114, some 115, some 116, some 117], [], [], [], [], [], [], [some 119, some 120, some 121, some 122, some 123, some 124], [], [], [], [], [], [], [some 126, some 127, some 128, some 129, some 130, some 131], [], [], [], [], [], [], [some 133, some 134, some 135, some 136, some 137, some 138], [], [], [], [], [], [], [some 140, some 141, some 142, some 143, some 144, some 145], [], [], [], [], [], [], [some 147, some 148, some 149, some 150, some 151, some 152], [], [], [], [], [], [], [some 154, some 275, some 396], [some 155, some 162], [some 156, some 157, some 158, some 159, some 160, some 161], [], [], [], [], [], [], [some 163, some 170, some 177, some 184, some 191, some 198, some 205, some 212, some 219, some 226, some 233, some 240, some 247, some 254, some 261, some 268], [some 164, some 165, some 166, some 167, some 168, some 169], [], [], [], [], [], [], [some 171, some 172, some 173, some 174, some 175, some 176], [], [], [], [], [], [], [some 178, some 179, some 180, some 181, some 182, some 183], [], [], [], [], [], [], [some 185, some 186, some 187, some 188, some 189, some 190], [], [], [], [], [], [], [some 192, some 193, some 194, some 195, some 196, some 197], [], [], [], [], [], [], [some 199, some 200, some 201, some 202, some 203, some 204], [], [], [], [], [], [], [some 206, some 207, some 208, some 209, some 210, some 211], [], [], [], [], [], [], [some 213, some 214, some 215, some 216, some 217, some 218], [], [], [], [], [], [], [some 220, some 221, some 222, some 223, some 224, some 225], [], [], [], [], [], [], [some 227, some 228, some 229, some 230, some 231, some 232], [], [], [], [], [], [], [some 234, some 235, some 236, some 237, some 238, some 239], [], [], [], [], [], [], [some 241, some 242, some 243, some 244, some 245, some 246], [], [], [], [], [], [], [some 248, some 249, some 250, some 251, some 252, some 253], [], [], [], [], [], [], [some 255, some 256, some 257, some 258, some 259, some 260], [], [], [], [], [], [], [some 262, some 263, some 264, some 265, some 266, some 267], [], [], [], [], [], [], [some 269, some 270, some 271, some 272, some 273, some 274], [], [], [], [], [], [], [some 276, some 283], [some 277, some 278, some 279, some 280, some 281, some 282], [], [], [], [], [], [], [some 284, some 291, some 298, some 305, some 312, some 319, some 326, some 333, some 340, some 347, some 354, some 361, some 368, some 375, some 382, some 389], [some 285, some 286, some 287, some 288, some 289, some 290], [], [], [], [], [], [], [some 292, some 293, some 294, some 295, some 296, some 297], [], [], [], [], [], [], [some 299, some 300, some 301, some 302, some 303, some 304], [], [], [], [], [], [], [some 306, some 307, some 308, some 309, some 310, some 311], [], [], [], [], [], [], [some 313, some 314, some 315, some 316, some 317, some 318], [], [], [], [], [], [], [some 320, some 321, some 322, some 323, some 324, some 325], [], [], [], [], [], [], [some 327, some 328, some 329, some 330, some 331, some 332], [], [], [], [], [], [], [some 334, some 335, some 336, some 337, some 338, some 339], [], [], [], [], [], [], [some 341, some 342, some 343, some 344, some 345, some 346], [], [], [], [], [], [], [some 348, some 349, some 350, some 351, some 352, some 353], [], [], [], [], [], [], [some 355, some 356, some 357, some 358, some 359, some 360], [], [], [], [], [], [], [some 362, some 363, some 364, some 365, some 366, some 367], [], [], [], [], [], [], [some 369, some 370, some 371, some 372, some 373, some 374], [], [], [], [], [], [], [some 376, some 377, some 378, some 379, some 380, some 381], [], [], [], [], [], [], [some 383, some 384, some 385, some 386, some 387, some 388], [], [], [], [], [], [], [some 390, some 391, some 392, some 393, some 394, some 395], [], [], [], [], [], [], [some 397, some 404], [some 398, some 399, some 400, some 401, some 402, some 403], [], [], [], [], [], [], [some 405, some 412, some 419, some 426, some 433, some 440, some 447, some 454, some 461, some 468, some 475, some 482, some 489, some 496, some 503, some 510], [some 406, some 407, some 408, some 409, some 410, some 411], [], [], [], [], [], [], [some 413, some 414, some 415, some 416, some 417, some 418], [], [], [], [], [], [], [some 420, some 421, some 422, some 423, some 424, some 425], [], [], [], [], [], [], [some 427, some 428, some 429, some 430, some 431, some 432], [], [], [], [], [], [], [some 434, some 435, some 436, some 437, some 438, some 439], [], [], [], [], [], [], [some 441, some 442, some 443, some 444, some 445, some 446], [], [], [], [], [], [], [some 448, some 449, some 450, some 451, some 452, some 453], [], [], [], [], [], [], [some 455, some 456, some 457, some 458, some 459, some 460], [], [], [], [], [], [], [some 462, some 463, some 464, some 465, some 466, some 467], [], [], [], [], [], [], [some 469, some 470, some 471, some 472, some 473, some 474], [], [], [], [], [], [], [some 476, some 477, some 478, some 479, some 480, some 481], [], [], [], [], [], [], [some 483, some 484, some 485, some 486, some 487, some 488], [], [], [], [], [], [], [some 490, some 491, some 492, some 493, some 494, some 495], [], [], [], [], [], [], [some 497, some 498, some 499, some 500, some 501, some 502], [], [], [], [], [], [], [some 504, some 505, some 506, some 507, some 508, some 509], [], [], [], [], [], [], [some 511, some 512, some 513, some 514, some 515, some 516], [], [], [], [], [], [], [some 31, some 518, some 519, some 520, some 521, some 522, some 523], [], [], [], [], [], [], [some 31, some 22, some 525], [], [some 31, some 527], [some 528, some 529, some 530, some 531, some 532, some 533], [], [], [], [], [], [], [none, some 535, none, none, none, none, none, none, none, some 536, some 537, some 538, some 539, some 540, none, none, none, none, none, none, some 541, some 542, some 543, some 544, some 545, none, none, some 546, some 547, some 548, none, none, none, none, none, none, some 549, some 550, some 551, some 552, some 553, none, some 554, some 555, none, some 556, some 557, some 558, none, some 559], [], [], [], [], [], [], [], [], [], [], [], [], [], [], [], [], [], [], [], [], [], [], [], [], [], []]
def R0 (a k : Nat) : Option Nat := (R0l.getD a []).getD k none
def Z (I : Nat → Nat → Int32) (J : Nat → Nat → Int64) (n w : Nat) : aS := (I, J, R0, 560, n, w)
def up (I : Nat → Nat → Int32) (a k : Nat) (v : Int32) : Nat → Nat → Int32 := fun x j => if x = a ∧ j = k then v else I x j
def upJ (J : Nat → Nat → Int64) (a k : Nat) (v : Int64) : Nat → Nat → Int64 := fun x j => if x = a ∧ j = k then v else J x j
def cpI (I : Nat → Nat → Int32) (a b n : Nat) : Nat → Nat → Int32 := fun x j => if x = b ∧ j < n then I a j else I x j
abbrev isO (ci a : Nat) : Prop := S0 a = ci ∧ 1 ≤ a ∧ a ≤ 560
abbrev isA (t n a : Nat) : Prop := S0 a = t ∧ L0 a = n ∧ 1 ≤ a ∧ a ≤ 560
variable {g : aG} {d : Nat} {y : aM} {pc : Nat} {l : List Value} {ll : List (Nat × Int64)} {st : List Value} {I : Nat → Nat → Int32} {J : Nat → Nat → Int64} {n w : Nat} {σ : aS} {Q : aO → aS → Prop}
theorem m_gi {idx ci k a : Nat} (hd : decode y.2.1 pc = .ok (.getfield idx, 3)) (hf : fldW y.1.cls idx ci k) (hr : (cty ci k).isReference = false) (ho : isO ci a) (kk : Rn g d y (pc + 3) l ll (.int (I a k) :: st) (Z I J n w) Q) : Rn g d y pc l ll (.ref a :: st) (Z I J n w) Q := s_geti hd hf hr ho.1 ho.2.1 ho.2.2 kk
theorem m_gr {idx ci k a b : Nat} (hd : decode y.2.1 pc = .ok (.getfield idx, 3)) (hf : fldW y.1.cls idx ci k) (hr : (cty ci k).isReference = true) (ho : isO ci a) (hb : R0 a k = some b) (kk : Rn g d y (pc + 3) l ll (.ref b :: st) (Z I J n w) Q) : Rn g d y pc l ll (.ref a :: st) (Z I J n w) Q := s_getr hd hf hr ho.1 ho.2.1 ho.2.2 hb kk
theorem m_pi {idx ci k a : Nat} {v : Int32} (hd : decode y.2.1 pc = .ok (.putfield idx, 3)) (hf : fldW y.1.cls idx ci k) (hr : cty ci k = .int) (hfin : (fT ci k).2.2.2 = false) (ho : isO ci a) (kk : Rn g d y (pc + 3) l ll st (Z (up I a k v) J n w) Q) : Rn g d y pc l ll (.int v :: .ref a :: st) (Z I J n w) Q := s_puti hd hf hr ho.1 ho.2.1 ho.2.2 hfin kk
theorem m_ia {a N : Nat} {i : Int32} (hd : decode y.2.1 pc = .ok (.iaload, 1)) (ha : isA 64 N a) (hi : vp_in i N) (kk : Rn g d y (pc + 1) l ll (.int (I a i.toNatClampNeg) :: st) (Z I J n w) Q) : Rn g d y pc l ll (.int i :: .ref a :: st) (Z I J n w) Q := s_iald hd ha.1 ha.2.2.1 ha.2.2.2 (by rw [ha.2.1]; exact hi) kk
theorem m_is {a N : Nat} {i x : Int32} (hd : decode y.2.1 pc = .ok (.iastore, 1)) (ha : isA 64 N a) (hi : vp_in i N) (kk : Rn g d y (pc + 1) l ll st (Z (up I a i.toNatClampNeg x) J n w) Q) : Rn g d y pc l ll (.int x :: .int i :: .ref a :: st) (Z I J n w) Q := s_iast hd ha.1 ha.2.2.1 ha.2.2.2 (by rw [ha.2.1]; exact hi) kk
theorem m_ba {a N : Nat} {i : Int32} (hd : decode y.2.1 pc = .ok (.baload, 1)) (ha : isA 65 N a) (hi : vp_in i N) (kk : Rn g d y (pc + 1) l ll (.int (I a i.toNatClampNeg) :: st) (Z I J n w) Q) : Rn g d y pc l ll (.int i :: .ref a :: st) (Z I J n w) Q := s_bald hd ha.1 ha.2.2.1 ha.2.2.2 (by rw [ha.2.1]; exact hi) kk
theorem m_bs {a N : Nat} {i x : Int32} (hd : decode y.2.1 pc = .ok (.bastore, 1)) (ha : isA 65 N a) (hi : vp_in i N) (kk : Rn g d y (pc + 1) l ll st (Z (up I a i.toNatClampNeg x.toInt8.toInt32) J n w) Q) : Rn g d y pc l ll (.int x :: .int i :: .ref a :: st) (Z I J n w) Q := s_bast hd ha.1 ha.2.2.1 ha.2.2.2 (by rw [ha.2.1]; exact hi) kk
theorem m_la {a N : Nat} {i : Int32} (hd : decode y.2.1 pc = .ok (.laload, 1)) (ha : isA 66 N a) (hi : vp_in i N) (kk : Rn g d y (pc + 1) l ll (.long (J a i.toNatClampNeg) :: st) (Z I J n w) Q) : Rn g d y pc l ll (.int i :: .ref a :: st) (Z I J n w) Q := s_lald hd ha.1 ha.2.2.1 ha.2.2.2 (by rw [ha.2.1]; exact hi) kk
theorem m_ls {a N : Nat} {i : Int32} {x : Int64} (hd : decode y.2.1 pc = .ok (.lastore, 1)) (ha : isA 66 N a) (hi : vp_in i N) (kk : Rn g d y (pc + 1) l ll st (Z I (upJ J a i.toNatClampNeg x) n w) Q) : Rn g d y pc l ll (.long x :: .int i :: .ref a :: st) (Z I J n w) Q := s_last hd ha.1 ha.2.2.1 ha.2.2.2 (by rw [ha.2.1]; exact hi) kk
theorem m_aa {a b N t : Nat} {i : Int32} (hd : decode y.2.1 pc = .ok (.aaload, 1)) (ha : isA t N a) (ht : t = 67 ∨ t = 68) (hi : vp_in i N) (hb : R0 a i.toNatClampNeg = some b) (kk : Rn g d y (pc + 1) l ll (.ref b :: st) (Z I J n w) Q) : Rn g d y pc l ll (.int i :: .ref a :: st) (Z I J n w) Q := s_aald hd (by rw [ha.1]; exact ht) ha.2.2.1 ha.2.2.2 (by rw [ha.2.1]; exact hi) hb kk
theorem m_al {a N t : Nat} (hd : decode y.2.1 pc = .ok (.arraylength, 1)) (ha : isA t N a) (ht : 64 ≤ t ∧ t ≤ 68) (kk : Rn g d y (pc + 1) l ll (.int (nI N) :: st) (Z I J n w) Q) : Rn g d y pc l ll (.ref a :: st) (Z I J n w) Q := s_alen hd (by rw [ha.1]; exact ht.1) (by rw [ha.1]; exact ht.2) ha.2.2.1 ha.2.2.2 (by rw [ha.2.1]; exact kk)
theorem m_cp {idx a b na nb c : Nat} {x : Int32} (hd : decode y.2.1 pc = .ok (.invokestatic idx, 3)) (hl : Cond.methodLink y.1.cls idx arraycopyName ∈ lw_good) (ha : isA 64 na a) (hb : isA 64 nb b) (hab : a ≠ b) (hx : ¬ x < 0) (hc : x.toNatClampNeg = c) (h4 : c ≤ na) (h5 : c ≤ nb) (hsm : (st.map fun v => v.category).sum ≤ 100)
    (kk : Rn g (d + 1) y (pc + 3) l ll st (Z (cpI I a b c) J n w) Q) : Rn g (d + 1) y pc l ll (.int x :: .int 0 :: .ref b :: .int 0 :: .ref a :: st) (Z I J n w) Q := by
  have hnf : nativeFrameWords "java/lang/System" "arraycopy" 5 + 11 ≤ 100 := by decide +kernel
  refine s_copy (sp := 0) (dp := 0) hd hl na_copy sa_copy iz_RJ10 ha.1 ha.2.2.1 ha.2.2.2 hb.1 hb.2.2.1 hb.2.2.2 hab (by decide) (by decide) hx (by rw [ha.2.1, hc]; show 0 + c ≤ na; omega) (by rw [hb.2.1, hc]; show 0 + c ≤ nb; omega) (by omega) (by omega) ?_
  have e : cpS (Z I J n w) a b (0 : Int32).toNatClampNeg (0 : Int32).toNatClampNeg x.toNatClampNeg = Z (cpI I a b c) J n w := by
    rw [hc]
    show (_, _) = (_, _)
    congr 1
    funext q j
    show (if q = b then va_cpy (I a) (I b) 0 0 c j else I q j) = if q = b ∧ j < c then I a j else I q j
    by_cases h : q = b
    · subst h
      simp [va_cpy]
    · simp [h]
  rw [e]; exact kk
theorem m_max {idx : Nat} {a b : Int32} (hd : decode y.2.1 pc = .ok (.invokestatic idx, 3)) (hl : Cond.methodLink y.1.cls idx Lib.Math.max.name ∈ lw_good) (hsm : (st.map fun v => v.category).sum ≤ 100) (kk : Rn g (d + 1) y (pc + 3) l ll (.int (if a < b then b else a) :: st) σ Q) : Rn g (d + 1) y pc l ll (.int b :: .int a :: st) σ Q := by
  intro p e R s m args below meth c H locs cells slots ls nc0 ns0 X
  have hR := X.2.2.1
  have hw := aX_wd X
  have h3 := X.2.2.2.2.2.2.1
  have h4 := X.2.2.2.2.2.2.2
  have h5 := hw.2.2.1
  exact va_mmax X.2.1.1 X.2.1.2.1 (X.2.1.2.2.1.trans X.2.2.2.1.1.symm) (aX_own X) (aX_g X _ hl) (aX_g X _ sa_J9_max_7cf53) (aX_g X _ iz_RJ9) (aX_g X _ cd_J9_max_7cf53) (by omega) (by rw [sum_cv]; omega) (by omega) (by omega) hd (kk _ _ _ _ _ _ _ _ _ _ _ _ _ _ _ _ X)
theorem m_min {idx : Nat} {a b : Int32} (hd : decode y.2.1 pc = .ok (.invokestatic idx, 3)) (hl : Cond.methodLink y.1.cls idx Lib.Math.min.name ∈ lw_good) (hsm : (st.map fun v => v.category).sum ≤ 100) (kk : Rn g (d + 1) y (pc + 3) l ll (.int (if b < a then b else a) :: st) σ Q) : Rn g (d + 1) y pc l ll (.int b :: .int a :: st) σ Q := by
  intro p e R s m args below meth c H locs cells slots ls nc0 ns0 X
  have hR := X.2.2.1
  have hw := aX_wd X
  have h3 := X.2.2.2.2.2.2.1
  have h4 := X.2.2.2.2.2.2.2
  have h5 := hw.2.2.1
  exact va_mmin X.2.1.1 X.2.1.2.1 (X.2.1.2.2.1.trans X.2.2.2.1.1.symm) (aX_own X) (aX_g X _ hl) (aX_g X _ sa_J9_min_7cf53) (aX_g X _ iz_RJ9) (aX_g X _ cd_J9_min_7cf53) (by omega) (by rw [sum_cv]; omega) (by omega) (by omega) hd (kk _ _ _ _ _ _ _ _ _ _ _ _ _ _ _ _ X)
theorem m_ic {k : Int} {v : Int32} (hd : decode y.2.1 pc = .ok (.iconst k, 1)) (hv : Int32.ofInt k = v) (kk : Rn g d y (pc + 1) l ll (.int v :: st) σ Q) : Rn g d y pc l ll st σ Q := by subst hv; exact s_iconst hd kk
theorem m_bi {k : Int} {v : Int32} (hd : decode y.2.1 pc = .ok (.bipush k, 2)) (hv : (Int8.ofInt k).toInt32 = v) (kk : Rn g d y (pc + 2) l ll (.int v :: st) σ Q) : Rn g d y pc l ll st σ Q := by subst hv; exact s_bipush hd kk
theorem m_si {k : Int} {v : Int32} (hd : decode y.2.1 pc = .ok (.sipush k, 3)) (hv : (Int16.ofInt k).toInt32 = v) (kk : Rn g d y (pc + 3) l ll (.int v :: st) σ Q) : Rn g d y pc l ll st σ Q := by subst hv; exact s_sipush hd kk
theorem m_lc {k : Fin 2} {v : Int64} (hd : decode y.2.1 pc = .ok (.lconst k, 1)) (hv : Int64.ofNat (k : Nat) = v) (kk : Rn g d y (pc + 1) l ll (.long v :: st) σ Q) : Rn g d y pc l ll st σ Q := by subst hv; exact s_lconst hd kk
theorem m_inc {i : Nat} {k : Int} {x v : Int32} (hd : decode y.2.1 pc = .ok (.iinc i k, 3)) (hx : l[i]? = some (.int x)) (hv : Int32.ofInt k = v) (kk : Rn g d y (pc + 3) (l.set i (.int (x + v))) (ll.filter (fun q => !(q.1 == i) && !(q.1 + 1 == i))) st σ Q) : Rn g d y pc l ll st σ Q := by subst hv; exact s_iinc hd hx kk
/-- what was counted up has another name: for the goals' sake -/
theorem m_nm {v v' : Int32} (h : v = v') (kk : Rn g d y pc l ll (.int v' :: st) σ Q) : Rn g d y pc l ll (.int v :: st) σ Q := by rw [h]; exact kk
theorem kt_s {v : Value} (h : Rn g d y pc l ll (v :: st) σ Q) : Kt g d y pc l ll st Q (.inl (some v)) σ := h
theorem kt_v (h : Rn g d y pc l ll st σ Q) : Kt g d y pc l ll st Q (.inl none) σ := h
theorem kt_x {k : Nat} (h : Q (.inr k) σ) : Kt g d y pc l ll st Q (.inr k) σ := h
/-- what a call's numbers must be -/
def okc (y' : aM) (As st : List Value) (r : Nat) : Bool := As.all okv && Nat.ble ((eL As).length + r) y'.2.2.1 && Nat.ble ((st.map fun v => v.category).sum + y'.2.2.1 + 11) 200
theorem okc_1 {y' : aM} {As st : List Value} {r : Nat} (h : okc y' As st r = true) : As.all okv = true ∧ (eL As).length + r ≤ y'.2.2.1 ∧ (st.map fun v => v.category).sum + y'.2.2.1 + 11 ≤ 200 := by
  unfold okc at h
  simp only [Bool.and_eq_true] at h
  exact ⟨h.1.1, Nat.le_of_ble_eq_true h.1.2, Nat.le_of_ble_eq_true h.2⟩
theorem m_v0 {idx a : Nat} {y' : aM} (hd : decode y.2.1 pc = .ok (.invokevirtual idx, 3)) (hl : linkM y.1.cls idx y') (hm : okV y' 0) (hr : rcv σ a y'.1.cls) (hexc : y.2.2.2.2 = []) (hok : okc y' [] st 1 = true) (k : Cn g d y' (.ref a :: []) σ (Kt g (d + 1) y (pc + 3) l ll st Q)) : Rn g (d + 1) y pc l ll (.ref a :: st) σ Q :=
  s_callV (As := []) hd hl hm.1 hm.2.1 hm.2.2 hr rfl rfl (okc_1 hok).1 (okc_1 hok).2.1 hexc (Nat.le_refl _) (okc_1 hok).2.2 k
theorem m_s0 {idx : Nat} {y' : aM} (hd : decode y.2.1 pc = .ok (.invokestatic idx, 3)) (hl : linkM y.1.cls idx y') (hm : okS y' 0) (hexc : y.2.2.2.2 = []) (hok : okc y' [] st 0 = true) (k : Cn g d y' [] σ (Kt g (d + 1) y (pc + 3) l ll st Q)) : Rn g (d + 1) y pc l ll (st) σ Q :=
  s_callS (As := []) hd hl hm.1 hm.2 rfl rfl (okc_1 hok).1 (okc_1 hok).2.1 hexc (Nat.le_refl _) (okc_1 hok).2.2 k
theorem m_i0 {idx a : Nat} {y' : aM} (hd : decode y.2.1 pc = .ok (.invokespecial idx, 3)) (hl : linkM y.1.cls idx y') (hm : okI y' 0) (hexc : y.2.2.2.2 = []) (hok : okc y' [] st 1 = true) (k : Cn g d y' (.ref a :: []) σ (Kt g (d + 1) y (pc + 3) l ll st Q)) : Rn g (d + 1) y pc l ll (.ref a :: st) σ Q :=
  s_callI (As := []) hd hl hm.1 hm.2.1 hm.2.2.1 hm.2.2.2 rfl rfl (okc_1 hok).1 (okc_1 hok).2.1 hexc (Nat.le_refl _) (okc_1 hok).2.2 k
theorem m_v1 {idx a : Nat} {y' : aM} {v1 : Value} (hd : decode y.2.1 pc = .ok (.invokevirtual idx, 3)) (hl : linkM y.1.cls idx y') (hm : okV y' 1) (hr : rcv σ a y'.1.cls) (hexc : y.2.2.2.2 = []) (hok : okc y' [v1] st 1 = true) (k : Cn g d y' (.ref a :: [v1]) σ (Kt g (d + 1) y (pc + 3) l ll st Q)) : Rn g (d + 1) y pc l ll (v1 :: .ref a :: st) σ Q :=
  s_callV (As := [v1]) hd hl hm.1 hm.2.1 hm.2.2 hr rfl rfl (okc_1 hok).1 (okc_1 hok).2.1 hexc (Nat.le_refl _) (okc_1 hok).2.2 k
theorem m_s1 {idx : Nat} {y' : aM} {v1 : Value} (hd : decode y.2.1 pc = .ok (.invokestatic idx, 3)) (hl : linkM y.1.cls idx y') (hm : okS y' 1) (hexc : y.2.2.2.2 = []) (hok : okc y' [v1] st 0 = true) (k : Cn g d y' [v1] σ (Kt g (d + 1) y (pc + 3) l ll st Q)) : Rn g (d + 1) y pc l ll (v1 :: st) σ Q :=
  s_callS (As := [v1]) hd hl hm.1 hm.2 rfl rfl (okc_1 hok).1 (okc_1 hok).2.1 hexc (Nat.le_refl _) (okc_1 hok).2.2 k
theorem m_i1 {idx a : Nat} {y' : aM} {v1 : Value} (hd : decode y.2.1 pc = .ok (.invokespecial idx, 3)) (hl : linkM y.1.cls idx y') (hm : okI y' 1) (hexc : y.2.2.2.2 = []) (hok : okc y' [v1] st 1 = true) (k : Cn g d y' (.ref a :: [v1]) σ (Kt g (d + 1) y (pc + 3) l ll st Q)) : Rn g (d + 1) y pc l ll (v1 :: .ref a :: st) σ Q :=
  s_callI (As := [v1]) hd hl hm.1 hm.2.1 hm.2.2.1 hm.2.2.2 rfl rfl (okc_1 hok).1 (okc_1 hok).2.1 hexc (Nat.le_refl _) (okc_1 hok).2.2 k
theorem m_v2 {idx a : Nat} {y' : aM} {v1 v2 : Value} (hd : decode y.2.1 pc = .ok (.invokevirtual idx, 3)) (hl : linkM y.1.cls idx y') (hm : okV y' 2) (hr : rcv σ a y'.1.cls) (hexc : y.2.2.2.2 = []) (hok : okc y' [v1, v2] st 1 = true) (k : Cn g d y' (.ref a :: [v1, v2]) σ (Kt g (d + 1) y (pc + 3) l ll st Q)) : Rn g (d + 1) y pc l ll (v2 :: v1 :: .ref a :: st) σ Q :=
  s_callV (As := [v1, v2]) hd hl hm.1 hm.2.1 hm.2.2 hr rfl rfl (okc_1 hok).1 (okc_1 hok).2.1 hexc (Nat.le_refl _) (okc_1 hok).2.2 k
theorem m_s2 {idx : Nat} {y' : aM} {v1 v2 : Value} (hd : decode y.2.1 pc = .ok (.invokestatic idx, 3)) (hl : linkM y.1.cls idx y') (hm : okS y' 2) (hexc : y.2.2.2.2 = []) (hok : okc y' [v1, v2] st 0 = true) (k : Cn g d y' [v1, v2] σ (Kt g (d + 1) y (pc + 3) l ll st Q)) : Rn g (d + 1) y pc l ll (v2 :: v1 :: st) σ Q :=
  s_callS (As := [v1, v2]) hd hl hm.1 hm.2 rfl rfl (okc_1 hok).1 (okc_1 hok).2.1 hexc (Nat.le_refl _) (okc_1 hok).2.2 k
theorem m_i2 {idx a : Nat} {y' : aM} {v1 v2 : Value} (hd : decode y.2.1 pc = .ok (.invokespecial idx, 3)) (hl : linkM y.1.cls idx y') (hm : okI y' 2) (hexc : y.2.2.2.2 = []) (hok : okc y' [v1, v2] st 1 = true) (k : Cn g d y' (.ref a :: [v1, v2]) σ (Kt g (d + 1) y (pc + 3) l ll st Q)) : Rn g (d + 1) y pc l ll (v2 :: v1 :: .ref a :: st) σ Q :=
  s_callI (As := [v1, v2]) hd hl hm.1 hm.2.1 hm.2.2.1 hm.2.2.2 rfl rfl (okc_1 hok).1 (okc_1 hok).2.1 hexc (Nat.le_refl _) (okc_1 hok).2.2 k
theorem m_v3 {idx a : Nat} {y' : aM} {v1 v2 v3 : Value} (hd : decode y.2.1 pc = .ok (.invokevirtual idx, 3)) (hl : linkM y.1.cls idx y') (hm : okV y' 3) (hr : rcv σ a y'.1.cls) (hexc : y.2.2.2.2 = []) (hok : okc y' [v1, v2, v3] st 1 = true) (k : Cn g d y' (.ref a :: [v1, v2, v3]) σ (Kt g (d + 1) y (pc + 3) l ll st Q)) : Rn g (d + 1) y pc l ll (v3 :: v2 :: v1 :: .ref a :: st) σ Q :=
  s_callV (As := [v1, v2, v3]) hd hl hm.1 hm.2.1 hm.2.2 hr rfl rfl (okc_1 hok).1 (okc_1 hok).2.1 hexc (Nat.le_refl _) (okc_1 hok).2.2 k
theorem m_s3 {idx : Nat} {y' : aM} {v1 v2 v3 : Value} (hd : decode y.2.1 pc = .ok (.invokestatic idx, 3)) (hl : linkM y.1.cls idx y') (hm : okS y' 3) (hexc : y.2.2.2.2 = []) (hok : okc y' [v1, v2, v3] st 0 = true) (k : Cn g d y' [v1, v2, v3] σ (Kt g (d + 1) y (pc + 3) l ll st Q)) : Rn g (d + 1) y pc l ll (v3 :: v2 :: v1 :: st) σ Q :=
  s_callS (As := [v1, v2, v3]) hd hl hm.1 hm.2 rfl rfl (okc_1 hok).1 (okc_1 hok).2.1 hexc (Nat.le_refl _) (okc_1 hok).2.2 k
theorem m_v4 {idx a : Nat} {y' : aM} {v1 v2 v3 v4 : Value} (hd : decode y.2.1 pc = .ok (.invokevirtual idx, 3)) (hl : linkM y.1.cls idx y') (hm : okV y' 4) (hr : rcv σ a y'.1.cls) (hexc : y.2.2.2.2 = []) (hok : okc y' [v1, v2, v3, v4] st 1 = true) (k : Cn g d y' (.ref a :: [v1, v2, v3, v4]) σ (Kt g (d + 1) y (pc + 3) l ll st Q)) : Rn g (d + 1) y pc l ll (v4 :: v3 :: v2 :: v1 :: .ref a :: st) σ Q :=
  s_callV (As := [v1, v2, v3, v4]) hd hl hm.1 hm.2.1 hm.2.2 hr rfl rfl (okc_1 hok).1 (okc_1 hok).2.1 hexc (Nat.le_refl _) (okc_1 hok).2.2 k
theorem m_s4 {idx : Nat} {y' : aM} {v1 v2 v3 v4 : Value} (hd : decode y.2.1 pc = .ok (.invokestatic idx, 3)) (hl : linkM y.1.cls idx y') (hm : okS y' 4) (hexc : y.2.2.2.2 = []) (hok : okc y' [v1, v2, v3, v4] st 0 = true) (k : Cn g d y' [v1, v2, v3, v4] σ (Kt g (d + 1) y (pc + 3) l ll st Q)) : Rn g (d + 1) y pc l ll (v4 :: v3 :: v2 :: v1 :: st) σ Q :=
  s_callS (As := [v1, v2, v3, v4]) hd hl hm.1 hm.2 rfl rfl (okc_1 hok).1 (okc_1 hok).2.1 hexc (Nat.le_refl _) (okc_1 hok).2.2 k
theorem m_v5 {idx a : Nat} {y' : aM} {v1 v2 v3 v4 v5 : Value} (hd : decode y.2.1 pc = .ok (.invokevirtual idx, 3)) (hl : linkM y.1.cls idx y') (hm : okV y' 5) (hr : rcv σ a y'.1.cls) (hexc : y.2.2.2.2 = []) (hok : okc y' [v1, v2, v3, v4, v5] st 1 = true) (k : Cn g d y' (.ref a :: [v1, v2, v3, v4, v5]) σ (Kt g (d + 1) y (pc + 3) l ll st Q)) : Rn g (d + 1) y pc l ll (v5 :: v4 :: v3 :: v2 :: v1 :: .ref a :: st) σ Q :=
  s_callV (As := [v1, v2, v3, v4, v5]) hd hl hm.1 hm.2.1 hm.2.2 hr rfl rfl (okc_1 hok).1 (okc_1 hok).2.1 hexc (Nat.le_refl _) (okc_1 hok).2.2 k
theorem m_s5 {idx : Nat} {y' : aM} {v1 v2 v3 v4 v5 : Value} (hd : decode y.2.1 pc = .ok (.invokestatic idx, 3)) (hl : linkM y.1.cls idx y') (hm : okS y' 5) (hexc : y.2.2.2.2 = []) (hok : okc y' [v1, v2, v3, v4, v5] st 0 = true) (k : Cn g d y' [v1, v2, v3, v4, v5] σ (Kt g (d + 1) y (pc + 3) l ll st Q)) : Rn g (d + 1) y pc l ll (v5 :: v4 :: v3 :: v2 :: v1 :: st) σ Q :=
  s_callS (As := [v1, v2, v3, v4, v5]) hd hl hm.1 hm.2 rfl rfl (okc_1 hok).1 (okc_1 hok).2.1 hexc (Nat.le_refl _) (okc_1 hok).2.2 k
theorem m_v6 {idx a : Nat} {y' : aM} {v1 v2 v3 v4 v5 v6 : Value} (hd : decode y.2.1 pc = .ok (.invokevirtual idx, 3)) (hl : linkM y.1.cls idx y') (hm : okV y' 6) (hr : rcv σ a y'.1.cls) (hexc : y.2.2.2.2 = []) (hok : okc y' [v1, v2, v3, v4, v5, v6] st 1 = true) (k : Cn g d y' (.ref a :: [v1, v2, v3, v4, v5, v6]) σ (Kt g (d + 1) y (pc + 3) l ll st Q)) : Rn g (d + 1) y pc l ll (v6 :: v5 :: v4 :: v3 :: v2 :: v1 :: .ref a :: st) σ Q :=
  s_callV (As := [v1, v2, v3, v4, v5, v6]) hd hl hm.1 hm.2.1 hm.2.2 hr rfl rfl (okc_1 hok).1 (okc_1 hok).2.1 hexc (Nat.le_refl _) (okc_1 hok).2.2 k
theorem m_v7 {idx a : Nat} {y' : aM} {v1 v2 v3 v4 v5 v6 v7 : Value} (hd : decode y.2.1 pc = .ok (.invokevirtual idx, 3)) (hl : linkM y.1.cls idx y') (hm : okV y' 7) (hr : rcv σ a y'.1.cls) (hexc : y.2.2.2.2 = []) (hok : okc y' [v1, v2, v3, v4, v5, v6, v7] st 1 = true) (k : Cn g d y' (.ref a :: [v1, v2, v3, v4, v5, v6, v7]) σ (Kt g (d + 1) y (pc + 3) l ll st Q)) : Rn g (d + 1) y pc l ll (v7 :: v6 :: v5 :: v4 :: v3 :: v2 :: v1 :: .ref a :: st) σ Q :=
  s_callV (As := [v1, v2, v3, v4, v5, v6, v7]) hd hl hm.1 hm.2.1 hm.2.2 hr rfl rfl (okc_1 hok).1 (okc_1 hok).2.1 hexc (Nat.le_refl _) (okc_1 hok).2.2 k
theorem m_v8 {idx a : Nat} {y' : aM} {v1 v2 v3 v4 v5 v6 v7 v8 : Value} (hd : decode y.2.1 pc = .ok (.invokevirtual idx, 3)) (hl : linkM y.1.cls idx y') (hm : okV y' 8) (hr : rcv σ a y'.1.cls) (hexc : y.2.2.2.2 = []) (hok : okc y' [v1, v2, v3, v4, v5, v6, v7, v8] st 1 = true) (k : Cn g d y' (.ref a :: [v1, v2, v3, v4, v5, v6, v7, v8]) σ (Kt g (d + 1) y (pc + 3) l ll st Q)) : Rn g (d + 1) y pc l ll (v8 :: v7 :: v6 :: v5 :: v4 :: v3 :: v2 :: v1 :: .ref a :: st) σ Q :=
  s_callV (As := [v1, v2, v3, v4, v5, v6, v7, v8]) hd hl hm.1 hm.2.1 hm.2.2 hr rfl rfl (okc_1 hok).1 (okc_1 hok).2.1 hexc (Nat.le_refl _) (okc_1 hok).2.2 k
theorem m_v9 {idx a : Nat} {y' : aM} {v1 v2 v3 v4 v5 v6 v7 v8 v9 : Value} (hd : decode y.2.1 pc = .ok (.invokevirtual idx, 3)) (hl : linkM y.1.cls idx y') (hm : okV y' 9) (hr : rcv σ a y'.1.cls) (hexc : y.2.2.2.2 = []) (hok : okc y' [v1, v2, v3, v4, v5, v6, v7, v8, v9] st 1 = true) (k : Cn g d y' (.ref a :: [v1, v2, v3, v4, v5, v6, v7, v8, v9]) σ (Kt g (d + 1) y (pc + 3) l ll st Q)) : Rn g (d + 1) y pc l ll (v9 :: v8 :: v7 :: v6 :: v5 :: v4 :: v3 :: v2 :: v1 :: .ref a :: st) σ Q :=
  s_callV (As := [v1, v2, v3, v4, v5, v6, v7, v8, v9]) hd hl hm.1 hm.2.1 hm.2.2 hr rfl rfl (okc_1 hok).1 (okc_1 hok).2.1 hexc (Nat.le_refl _) (okc_1 hok).2.2 k
theorem m_v10 {idx a : Nat} {y' : aM} {v1 v2 v3 v4 v5 v6 v7 v8 v9 v10 : Value} (hd : decode y.2.1 pc = .ok (.invokevirtual idx, 3)) (hl : linkM y.1.cls idx y') (hm : okV y' 10) (hr : rcv σ a y'.1.cls) (hexc : y.2.2.2.2 = []) (hok : okc y' [v1, v2, v3, v4, v5, v6, v7, v8, v9, v10] st 1 = true) (k : Cn g d y' (.ref a :: [v1, v2, v3, v4, v5, v6, v7, v8, v9, v10]) σ (Kt g (d + 1) y (pc + 3) l ll st Q)) : Rn g (d + 1) y pc l ll (v10 :: v9 :: v8 :: v7 :: v6 :: v5 :: v4 :: v3 :: v2 :: v1 :: .ref a :: st) σ Q :=
  s_callV (As := [v1, v2, v3, v4, v5, v6, v7, v8, v9, v10]) hd hl hm.1 hm.2.1 hm.2.2 hr rfl rfl (okc_1 hok).1 (okc_1 hok).2.1 hexc (Nat.le_refl _) (okc_1 hok).2.2 k
theorem rcO {ci a : Nat} {C : String} (h : isO ci a) (hc : ci < 13) (hC : cR ci = C) : rcv (Z I J n w) a C := Or.inl ⟨ci, hc, hC, h.1, h.2.1, h.2.2⟩
theorem rcS {j : Nat} (h : j < 18) : rcv σ (1000000 + 2 * j) "java/lang/String" := Or.inr ⟨rfl, j, h, rfl⟩
theorem o_1 : isO 11 1 := by decide +kernel
theorem r_1_0 : R0 1 0 = some 2 := by decide +kernel
theorem r_1_1 : R0 1 1 = some 4 := by decide +kernel
theorem r_1_2 : R0 1 2 = some 9 := by decide +kernel
theorem r_1_3 : R0 1 3 = some 14 := by decide +kernel
theorem r_1_4 : R0 1 4 = some 18 := by decide +kernel
theorem r_1_5 : R0 1 5 = some 22 := by decide +kernel
theorem r_1_6 : R0 1 6 = some 24 := by decide +kernel
theorem r_1_7 : R0 1 7 = some 26 := by decide +kernel
theorem r_1_8 : R0 1 8 = some 31 := by decide +kernel
theorem r_1_9 : R0 1 9 = some 32 := by decide +kernel
theorem r_1_10 : R0 1 10 = some 33 := by decide +kernel
theorem r_1_11 : R0 1 11 = some 153 := by decide +kernel
theorem r_1_12 : R0 1 12 = some 517 := by decide +kernel
theorem r_1_13 : R0 1 13 = some 524 := by decide +kernel
theorem r_1_14 : R0 1 14 = some 526 := by decide +kernel
theorem o_2 : isO 10 2 := by decide +kernel
theorem r_2_0 : R0 2 0 = some 3 := by decide +kernel
theorem a_3 : isA 65 600 3 := by decide +kernel
theorem o_4 : isO 1 4 := by decide +kernel
theorem r_4_0 : R0 4 0 = some 5 := by decide +kernel
theorem r_4_1 : R0 4 1 = some 6 := by decide +kernel
theorem r_4_2 : R0 4 2 = some 7 := by decide +kernel
theorem r_4_3 : R0 4 3 = some 8 := by decide +kernel
theorem a_5 : isA 64 7 5 := by decide +kernel
theorem a_6 : isA 64 7 6 := by decide +kernel
theorem a_7 : isA 64 12 7 := by decide +kernel
theorem a_8 : isA 64 12 8 := by decide +kernel
theorem o_9 : isO 1 9 := by decide +kernel
theorem r_9_0 : R0 9 0 = some 10 := by decide +kernel
theorem r_9_1 : R0 9 1 = some 11 := by decide +kernel
theorem r_9_2 : R0 9 2 = some 12 := by decide +kernel
theorem r_9_3 : R0 9 3 = some 13 := by decide +kernel
theorem a_10 : isA 64 7 10 := by decide +kernel
theorem a_11 : isA 64 7 11 := by decide +kernel
theorem a_12 : isA 64 12 12 := by decide +kernel
theorem a_13 : isA 64 12 13 := by decide +kernel
theorem o_14 : isO 4 14 := by decide +kernel
theorem r_14_0 : R0 14 0 = some 15 := by decide +kernel
theorem r_14_1 : R0 14 1 = some 16 := by decide +kernel
theorem r_14_2 : R0 14 2 = some 17 := by decide +kernel
theorem a_15 : isA 64 150 15 := by decide +kernel
theorem a_16 : isA 64 9 16 := by decide +kernel
theorem a_17 : isA 64 150 17 := by decide +kernel
theorem o_18 : isO 4 18 := by decide +kernel
theorem r_18_0 : R0 18 0 = some 19 := by decide +kernel
theorem r_18_1 : R0 18 1 = some 20 := by decide +kernel
theorem r_18_2 : R0 18 2 = some 21 := by decide +kernel
theorem a_19 : isA 64 150 19 := by decide +kernel
theorem a_20 : isA 64 9 20 := by decide +kernel
theorem a_21 : isA 64 150 21 := by decide +kernel
theorem o_22 : isO 0 22 := by decide +kernel
theorem r_22_0 : R0 22 0 = some 23 := by decide +kernel
theorem a_23 : isA 64 7 23 := by decide +kernel
theorem o_24 : isO 0 24 := by decide +kernel
theorem r_24_0 : R0 24 0 = some 25 := by decide +kernel
theorem a_25 : isA 64 7 25 := by decide +kernel
theorem o_26 : isO 6 26 := by decide +kernel
theorem r_26_0 : R0 26 0 = some 27 := by decide +kernel
theorem r_26_1 : R0 26 1 = some 28 := by decide +kernel
theorem r_26_2 : R0 26 2 = some 29 := by decide +kernel
theorem r_26_3 : R0 26 3 = some 30 := by decide +kernel
theorem a_27 : isA 64 150 27 := by decide +kernel
theorem a_28 : isA 64 150 28 := by decide +kernel
theorem a_29 : isA 64 150 29 := by decide +kernel
theorem a_30 : isA 64 6 30 := by decide +kernel
theorem o_31 : isO 3 31 := by decide +kernel
theorem r_31_0 : R0 31 0 = some 4 := by decide +kernel
theorem r_31_1 : R0 31 1 = some 14 := by decide +kernel
theorem o_32 : isO 5 32 := by decide +kernel
theorem r_32_0 : R0 32 0 = some 33 := by decide +kernel
theorem r_32_1 : R0 32 1 = some 40 := by decide +kernel
theorem o_33 : isO 9 33 := by decide +kernel
theorem r_33_0 : R0 33 0 = some 34 := by decide +kernel
theorem r_33_1 : R0 33 1 = some 35 := by decide +kernel
theorem r_33_2 : R0 33 2 = some 36 := by decide +kernel
theorem r_33_3 : R0 33 3 = some 37 := by decide +kernel
theorem r_33_4 : R0 33 4 = some 38 := by decide +kernel
theorem r_33_5 : R0 33 5 = some 39 := by decide +kernel
theorem a_34 : isA 64 7 34 := by decide +kernel
theorem a_35 : isA 64 7 35 := by decide +kernel
theorem a_36 : isA 64 7 36 := by decide +kernel
theorem a_37 : isA 64 7 37 := by decide +kernel
theorem a_38 : isA 64 84 38 := by decide +kernel
theorem a_39 : isA 64 12 39 := by decide +kernel
theorem a_40 : isA 67 16 40 := by decide +kernel
theorem a_153 : isA 68 3 153 := by decide +kernel
theorem o_154 : isO 5 154 := by decide +kernel
theorem r_154_0 : R0 154 0 = some 155 := by decide +kernel
theorem r_154_1 : R0 154 1 = some 162 := by decide +kernel
theorem a_162 : isA 67 16 162 := by decide +kernel
theorem o_275 : isO 5 275 := by decide +kernel
theorem r_275_0 : R0 275 0 = some 276 := by decide +kernel
theorem r_275_1 : R0 275 1 = some 283 := by decide +kernel
theorem a_283 : isA 67 16 283 := by decide +kernel
theorem o_396 : isO 5 396 := by decide +kernel
theorem r_396_0 : R0 396 0 = some 397 := by decide +kernel
theorem r_396_1 : R0 396 1 = some 404 := by decide +kernel
theorem a_404 : isA 67 16 404 := by decide +kernel
theorem o_517 : isO 8 517 := by decide +kernel
theorem r_517_0 : R0 517 0 = some 31 := by decide +kernel
theorem r_517_1 : R0 517 1 = some 518 := by decide +kernel
theorem r_517_2 : R0 517 2 = some 519 := by decide +kernel
theorem r_517_3 : R0 517 3 = some 520 := by decide +kernel
theorem r_517_4 : R0 517 4 = some 521 := by decide +kernel
theorem r_517_5 : R0 517 5 = some 522 := by decide +kernel
theorem r_517_6 : R0 517 6 = some 523 := by decide +kernel
theorem a_518 : isA 64 6 518 := by decide +kernel
theorem a_519 : isA 64 42 519 := by decide +kernel
theorem a_520 : isA 64 7 520 := by decide +kernel
theorem a_521 : isA 64 7 521 := by decide +kernel
theorem a_522 : isA 64 6 522 := by decide +kernel
theorem a_523 : isA 64 6 523 := by decide +kernel
theorem o_524 : isO 2 524 := by decide +kernel
theorem r_524_0 : R0 524 0 = some 31 := by decide +kernel
theorem r_524_1 : R0 524 1 = some 22 := by decide +kernel
theorem r_524_2 : R0 524 2 = some 525 := by decide +kernel
theorem a_525 : isA 64 136 525 := by decide +kernel
theorem o_526 : isO 7 526 := by decide +kernel
theorem r_526_0 : R0 526 0 = some 31 := by decide +kernel
theorem r_526_1 : R0 526 1 = some 527 := by decide +kernel
theorem o_527 : isO 9 527 := by decide +kernel
theorem r_527_0 : R0 527 0 = some 528 := by decide +kernel
theorem r_527_1 : R0 527 1 = some 529 := by decide +kernel
theorem r_527_2 : R0 527 2 = some 530 := by decide +kernel
theorem r_527_3 : R0 527 3 = some 531 := by decide +kernel
theorem r_527_4 : R0 527 4 = some 532 := by decide +kernel
theorem r_527_5 : R0 527 5 = some 533 := by decide +kernel
theorem a_528 : isA 64 7 528 := by decide +kernel
theorem a_529 : isA 64 7 529 := by decide +kernel
theorem a_530 : isA 64 7 530 := by decide +kernel
theorem a_531 : isA 64 7 531 := by decide +kernel
theorem a_532 : isA 64 84 532 := by decide +kernel
theorem a_533 : isA 64 12 533 := by decide +kernel
theorem o_534 : isO 12 534 := by decide +kernel
theorem r_534_1 : R0 534 1 = some 535 := by decide +kernel
theorem r_534_9 : R0 534 9 = some 536 := by decide +kernel
theorem r_534_10 : R0 534 10 = some 537 := by decide +kernel
theorem r_534_11 : R0 534 11 = some 538 := by decide +kernel
theorem r_534_12 : R0 534 12 = some 539 := by decide +kernel
theorem r_534_13 : R0 534 13 = some 540 := by decide +kernel
theorem r_534_20 : R0 534 20 = some 541 := by decide +kernel
theorem r_534_21 : R0 534 21 = some 542 := by decide +kernel
theorem r_534_22 : R0 534 22 = some 543 := by decide +kernel
theorem r_534_23 : R0 534 23 = some 544 := by decide +kernel
theorem r_534_24 : R0 534 24 = some 545 := by decide +kernel
theorem r_534_27 : R0 534 27 = some 546 := by decide +kernel
theorem r_534_28 : R0 534 28 = some 547 := by decide +kernel
theorem r_534_29 : R0 534 29 = some 548 := by decide +kernel
theorem r_534_36 : R0 534 36 = some 549 := by decide +kernel
theorem r_534_37 : R0 534 37 = some 550 := by decide +kernel
theorem r_534_38 : R0 534 38 = some 551 := by decide +kernel
theorem r_534_39 : R0 534 39 = some 552 := by decide +kernel
theorem r_534_40 : R0 534 40 = some 553 := by decide +kernel
theorem r_534_42 : R0 534 42 = some 554 := by decide +kernel
theorem r_534_43 : R0 534 43 = some 555 := by decide +kernel
theorem r_534_45 : R0 534 45 = some 556 := by decide +kernel
theorem r_534_46 : R0 534 46 = some 557 := by decide +kernel
theorem r_534_47 : R0 534 47 = some 558 := by decide +kernel
theorem r_534_49 : R0 534 49 = some 559 := by decide +kernel
theorem a_535 : isA 64 2 535 := by decide +kernel
theorem a_536 : isA 64 600 536 := by decide +kernel
theorem a_537 : isA 64 14 537 := by decide +kernel
theorem a_538 : isA 64 24 538 := by decide +kernel
theorem a_539 : isA 64 14 539 := by decide +kernel
theorem a_540 : isA 64 24 540 := by decide +kernel
theorem a_541 : isA 64 150 541 := by decide +kernel
theorem a_542 : isA 64 150 542 := by decide +kernel
theorem a_543 : isA 64 150 543 := by decide +kernel
theorem a_544 : isA 64 150 544 := by decide +kernel
theorem a_545 : isA 64 150 545 := by decide +kernel
theorem a_546 : isA 64 9 546 := by decide +kernel
theorem a_547 : isA 64 150 547 := by decide +kernel
theorem a_548 : isA 64 150 548 := by decide +kernel
theorem a_549 : isA 64 126 549 := by decide +kernel
theorem a_550 : isA 64 126 550 := by decide +kernel
theorem a_551 : isA 64 2016 551 := by decide +kernel
theorem a_552 : isA 64 7 552 := by decide +kernel
theorem a_553 : isA 64 7 553 := by decide +kernel
theorem a_554 : isA 64 6 554 := by decide +kernel
theorem a_555 : isA 64 512 555 := by decide +kernel
theorem a_556 : isA 64 6 556 := by decide +kernel
theorem a_557 : isA 64 1000 557 := by decide +kernel
theorem a_558 : isA 66 14 558 := by decide +kernel
theorem a_559 : isA 64 6429 559 := by decide +kernel
theorem a_560 : isA 66 1 560 := by decide +kernel
end Mk
