/-! THE LAW: its loop, from its beginning -/
theorem L_exit {i : Nat} {D : Mem} : X 23 138 j_L_law 1157 (LSL i) [] (138, P0, D) QL := by
  refine X_iconst (v := 1) (nx := 1158) dL_law_1157 rfl rfl ?_
  exact X_ret ⟨⟨.boolean, rfl, rfl⟩, dL_law_1158⟩ rfl rfl
theorem L_head {i L : Nat} {D : Mem} (hl : D 2004 0 = nI L) (hL : L ≤ 3072) (hi : i ≤ 3072) (k1 : L < i + 6 → X 23 138 j_L_law 1157 (LSL i) [] (138, P0, D) QL) (k2 : i + 6 ≤ L → X 23 138 j_L_law 27 (LSL i) [] (138, P0, D) QL) : X 23 138 j_L_law 18 (LSL i) [] (138, P0, D) QL := by
  refine X_iload_n (nx := 19) dL_law_18 rfl rfl rfl ?_
  refine X_aload_n (nx := 20) dL_law_19 rfl rfl rfl ?_
  refine M_xlen (nx := 21) dL_law_20 rfl ?_
  rw [hl]
  refine X_bipush (v := 6) (nx := 23) dL_law_21 rfl rfl ?_
  refine X_isub (nx := 24) dL_law_23 rfl ?_
  have e := pk_sub_toInt (a := L) (b := 6) (by omega) (by omega)
  rw [show nI 6 = (6 : Int32) from rfl] at e
  have e2 : (nI i).toInt = i := nI_toInt (by omega)
  refine X_icmp_gt (tgt := 1157) (nx := 27) dL_law_24 rfl rfl (fun h => k1 ?_) (fun h => k2 ?_)
  · rw [Int32.lt_iff_toInt_lt, e, e2] at h; omega
  · rw [Int32.lt_iff_toInt_lt, e, e2] at h; omega
theorem L_body {xs : Nat → Int32} {i L : Nat} {D : Mem} {S : St} (h1 : INV1 D S) (h2 : INV2 D S) (hx : D 2003 = xs) (hl : D 2004 0 = nI L) (hi : i + 6 ≤ L) (hL : L ≤ 3072) (K : ∀ D' S', INV1 D' S' → INV2 D' S' → D' 2003 = xs → D' 2004 0 = nI L → X 23 138 j_L_law 1151 (LSL i) [] (138, P0, D') QL) : X 23 138 j_L_law 27 (LSL i) [] (138, P0, D) QL := by
  refine X_aload_n (nx := 28) dL_law_27 rfl rfl rfl ?_
  refine X_iload_n (nx := 29) dL_law_28 rfl rfl rfl ?_
  refine M_xld (nx := 30) dL_law_29 rfl (by rw [hl, nI_clamp (by omega)]; exact vp_in_nI (by omega) (by omega)) ?_
  rw [nI_clamp (by omega), hx]
  refine X_bipush (v := 63) (nx := 32) dL_law_30 rfl rfl ?_
  refine X_iand (nx := 33) dL_law_32 rfl ?_
  generalize xs i &&& 63 = w
  by_cases c0 : w = 0
  · refine X_top c0 ?_
    refine X_tableIn (tgt := 180) (off := 147) dL_law_33 (by decide) (by decide) (by decide) rfl ?_
    exact law_c0 h1 h2 hx hl hi hL K
  by_cases c1 : w = 1
  · refine X_top c1 ?_
    refine X_tableIn (tgt := 203) (off := 170) dL_law_33 (by decide) (by decide) (by decide) rfl ?_
    exact law_c1 h1 h2 hx hl hi hL K
  by_cases c2 : w = 2
  · refine X_top c2 ?_
    refine X_tableIn (tgt := 216) (off := 183) dL_law_33 (by decide) (by decide) (by decide) rfl ?_
    exact law_c2 h1 h2 hx hl hi hL K
  by_cases c3 : w = 3
  · refine X_top c3 ?_
    refine X_tableIn (tgt := 259) (off := 226) dL_law_33 (by decide) (by decide) (by decide) rfl ?_
    exact law_c3 h1 h2 hx hl hi hL K
  by_cases c4 : w = 4
  · refine X_top c4 ?_
    refine X_tableIn (tgt := 292) (off := 259) dL_law_33 (by decide) (by decide) (by decide) rfl ?_
    exact law_c4 h1 h2 hx hl hi hL K
  by_cases c5 : w = 5
  · refine X_top c5 ?_
    refine X_tableIn (tgt := 315) (off := 282) dL_law_33 (by decide) (by decide) (by decide) rfl ?_
    exact law_c5 h1 h2 hx hl hi hL K
  by_cases c6 : w = 6
  · refine X_top c6 ?_
    refine X_tableIn (tgt := 348) (off := 315) dL_law_33 (by decide) (by decide) (by decide) rfl ?_
    exact law_c6 h1 h2 hx hl hi hL K
  by_cases c7 : w = 7
  · refine X_top c7 ?_
    refine X_tableIn (tgt := 381) (off := 348) dL_law_33 (by decide) (by decide) (by decide) rfl ?_
    exact law_c7 h1 h2 hx hl hi hL K
  by_cases c8 : w = 8
  · refine X_top c8 ?_
    refine X_tableIn (tgt := 414) (off := 381) dL_law_33 (by decide) (by decide) (by decide) rfl ?_
    exact law_c8 h1 h2 hx hl hi hL K
  by_cases c9 : w = 9
  · refine X_top c9 ?_
    refine X_tableIn (tgt := 437) (off := 404) dL_law_33 (by decide) (by decide) (by decide) rfl ?_
    exact law_c9 h1 h2 hx hl hi hL K
  by_cases c10 : w = 10
  · refine X_top c10 ?_
    refine X_tableIn (tgt := 470) (off := 437) dL_law_33 (by decide) (by decide) (by decide) rfl ?_
    exact law_c10 h1 h2 hx hl hi hL K
  by_cases c11 : w = 11
  · refine X_top c11 ?_
    refine X_tableIn (tgt := 503) (off := 470) dL_law_33 (by decide) (by decide) (by decide) rfl ?_
    exact law_c11 h1 h2 hx hl hi hL K
  by_cases c12 : w = 12
  · refine X_top c12 ?_
    refine X_tableIn (tgt := 546) (off := 513) dL_law_33 (by decide) (by decide) (by decide) rfl ?_
    exact law_c12 h1 h2 hx hl hi hL K
  by_cases c13 : w = 13
  · refine X_top c13 ?_
    refine X_tableIn (tgt := 579) (off := 546) dL_law_33 (by decide) (by decide) (by decide) rfl ?_
    exact law_c13 h1 h2 hx hl hi hL K
  by_cases c14 : w = 14
  · refine X_top c14 ?_
    refine X_tableIn (tgt := 602) (off := 569) dL_law_33 (by decide) (by decide) (by decide) rfl ?_
    exact law_c14 h1 h2 hx hl hi hL K
  by_cases c15 : w = 15
  · refine X_top c15 ?_
    refine X_tableIn (tgt := 635) (off := 602) dL_law_33 (by decide) (by decide) (by decide) rfl ?_
    exact law_c15 h1 h2 hx hl hi hL K
  by_cases c16 : w = 16
  · refine X_top c16 ?_
    refine X_tableIn (tgt := 648) (off := 615) dL_law_33 (by decide) (by decide) (by decide) rfl ?_
    exact law_c16 h1 h2 hx hl hi hL K
  by_cases c17 : w = 17
  · refine X_top c17 ?_
    refine X_tableIn (tgt := 671) (off := 638) dL_law_33 (by decide) (by decide) (by decide) rfl ?_
    exact law_c17 h1 h2 hx hl hi hL K
  by_cases c18 : w = 18
  · refine X_top c18 ?_
    refine X_tableIn (tgt := 704) (off := 671) dL_law_33 (by decide) (by decide) (by decide) rfl ?_
    exact law_c18 h1 h2 hx hl hi hL K
  by_cases c19 : w = 19
  · refine X_top c19 ?_
    refine X_tableIn (tgt := 727) (off := 694) dL_law_33 (by decide) (by decide) (by decide) rfl ?_
    exact law_c19 h1 h2 hx hl hi hL K
  by_cases c20 : w = 20
  · refine X_top c20 ?_
    refine X_tableIn (tgt := 790) (off := 757) dL_law_33 (by decide) (by decide) (by decide) rfl ?_
    exact law_c20 h1 h2 hx hl hi hL K
  by_cases c21 : w = 21
  · refine X_top c21 ?_
    refine X_tableIn (tgt := 813) (off := 780) dL_law_33 (by decide) (by decide) (by decide) rfl ?_
    exact law_c21 h1 h2 hx hl hi hL K
  by_cases c22 : w = 22
  · refine X_top c22 ?_
    refine X_tableIn (tgt := 856) (off := 823) dL_law_33 (by decide) (by decide) (by decide) rfl ?_
    exact law_c22 h1 h2 hx hl hi hL K
  by_cases c23 : w = 23
  · refine X_top c23 ?_
    refine X_tableIn (tgt := 879) (off := 846) dL_law_33 (by decide) (by decide) (by decide) rfl ?_
    exact law_c23 h1 h2 hx hl hi hL K
  by_cases c24 : w = 24
  · refine X_top c24 ?_
    refine X_tableIn (tgt := 933) (off := 900) dL_law_33 (by decide) (by decide) (by decide) rfl ?_
    exact law_c24 h1 h2 hx hl hi hL K
  by_cases c25 : w = 25
  · refine X_top c25 ?_
    refine X_tableIn (tgt := 967) (off := 934) dL_law_33 (by decide) (by decide) (by decide) rfl ?_
    exact law_c25 h1 h2 hx hl hi hL K
  by_cases c26 : w = 26
  · refine X_top c26 ?_
    refine X_tableIn (tgt := 1000) (off := 967) dL_law_33 (by decide) (by decide) (by decide) rfl ?_
    exact law_c26 h1 h2 hx hl hi hL K
  by_cases c27 : w = 27
  · refine X_top c27 ?_
    refine X_tableIn (tgt := 1023) (off := 990) dL_law_33 (by decide) (by decide) (by decide) rfl ?_
    exact law_c27 h1 h2 hx hl hi hL K
  by_cases c28 : w = 28
  · refine X_top c28 ?_
    refine X_tableIn (tgt := 1046) (off := 1013) dL_law_33 (by decide) (by decide) (by decide) rfl ?_
    exact law_c28 h1 h2 hx hl hi hL K
  by_cases c29 : w = 29
  · refine X_top c29 ?_
    refine X_tableIn (tgt := 1059) (off := 1026) dL_law_33 (by decide) (by decide) (by decide) rfl ?_
    exact law_c29 h1 h2 hx hl hi hL K
  by_cases c30 : w = 30
  · refine X_top c30 ?_
    refine X_tableIn (tgt := 1102) (off := 1069) dL_law_33 (by decide) (by decide) (by decide) rfl ?_
    exact law_c30 h1 h2 hx hl hi hL K
  by_cases c31 : w = 31
  · refine X_top c31 ?_
    refine X_tableIn (tgt := 1115) (off := 1082) dL_law_33 (by decide) (by decide) (by decide) rfl ?_
    exact law_c31 h1 h2 hx hl hi hL K
  by_cases c32 : w = 32
  · refine X_top c32 ?_
    refine X_tableIn (tgt := 1128) (off := 1095) dL_law_33 (by decide) (by decide) (by decide) rfl ?_
    exact law_c32 h1 h2 hx hl hi hL K
  have z0 : w.toInt ≠ 0 := fun q => c0 (Int32.toInt_inj.mp (q.trans (by decide)))
  have z1 : w.toInt ≠ 1 := fun q => c1 (Int32.toInt_inj.mp (q.trans (by decide)))
  have z2 : w.toInt ≠ 2 := fun q => c2 (Int32.toInt_inj.mp (q.trans (by decide)))
  have z3 : w.toInt ≠ 3 := fun q => c3 (Int32.toInt_inj.mp (q.trans (by decide)))
  have z4 : w.toInt ≠ 4 := fun q => c4 (Int32.toInt_inj.mp (q.trans (by decide)))
  have z5 : w.toInt ≠ 5 := fun q => c5 (Int32.toInt_inj.mp (q.trans (by decide)))
  have z6 : w.toInt ≠ 6 := fun q => c6 (Int32.toInt_inj.mp (q.trans (by decide)))
  have z7 : w.toInt ≠ 7 := fun q => c7 (Int32.toInt_inj.mp (q.trans (by decide)))
  have z8 : w.toInt ≠ 8 := fun q => c8 (Int32.toInt_inj.mp (q.trans (by decide)))
  have z9 : w.toInt ≠ 9 := fun q => c9 (Int32.toInt_inj.mp (q.trans (by decide)))
  have z10 : w.toInt ≠ 10 := fun q => c10 (Int32.toInt_inj.mp (q.trans (by decide)))
  have z11 : w.toInt ≠ 11 := fun q => c11 (Int32.toInt_inj.mp (q.trans (by decide)))
  have z12 : w.toInt ≠ 12 := fun q => c12 (Int32.toInt_inj.mp (q.trans (by decide)))
  have z13 : w.toInt ≠ 13 := fun q => c13 (Int32.toInt_inj.mp (q.trans (by decide)))
  have z14 : w.toInt ≠ 14 := fun q => c14 (Int32.toInt_inj.mp (q.trans (by decide)))
  have z15 : w.toInt ≠ 15 := fun q => c15 (Int32.toInt_inj.mp (q.trans (by decide)))
  have z16 : w.toInt ≠ 16 := fun q => c16 (Int32.toInt_inj.mp (q.trans (by decide)))
  have z17 : w.toInt ≠ 17 := fun q => c17 (Int32.toInt_inj.mp (q.trans (by decide)))
  have z18 : w.toInt ≠ 18 := fun q => c18 (Int32.toInt_inj.mp (q.trans (by decide)))
  have z19 : w.toInt ≠ 19 := fun q => c19 (Int32.toInt_inj.mp (q.trans (by decide)))
  have z20 : w.toInt ≠ 20 := fun q => c20 (Int32.toInt_inj.mp (q.trans (by decide)))
  have z21 : w.toInt ≠ 21 := fun q => c21 (Int32.toInt_inj.mp (q.trans (by decide)))
  have z22 : w.toInt ≠ 22 := fun q => c22 (Int32.toInt_inj.mp (q.trans (by decide)))
  have z23 : w.toInt ≠ 23 := fun q => c23 (Int32.toInt_inj.mp (q.trans (by decide)))
  have z24 : w.toInt ≠ 24 := fun q => c24 (Int32.toInt_inj.mp (q.trans (by decide)))
  have z25 : w.toInt ≠ 25 := fun q => c25 (Int32.toInt_inj.mp (q.trans (by decide)))
  have z26 : w.toInt ≠ 26 := fun q => c26 (Int32.toInt_inj.mp (q.trans (by decide)))
  have z27 : w.toInt ≠ 27 := fun q => c27 (Int32.toInt_inj.mp (q.trans (by decide)))
  have z28 : w.toInt ≠ 28 := fun q => c28 (Int32.toInt_inj.mp (q.trans (by decide)))
  have z29 : w.toInt ≠ 29 := fun q => c29 (Int32.toInt_inj.mp (q.trans (by decide)))
  have z30 : w.toInt ≠ 30 := fun q => c30 (Int32.toInt_inj.mp (q.trans (by decide)))
  have z31 : w.toInt ≠ 31 := fun q => c31 (Int32.toInt_inj.mp (q.trans (by decide)))
  have z32 : w.toInt ≠ 32 := fun q => c32 (Int32.toInt_inj.mp (q.trans (by decide)))
  exact X_tableOut (tgt := 1151) dL_law_33 (by omega) rfl (K D S h1 h2 hx hl)
theorem law_loop {xs : Nat → Int32} {L : Nat} (hL : L ≤ 3072) : ∀ (n i : Nat) (D : Mem) (S : St), INV1 D S → INV2 D S → D 2003 = xs → D 2004 0 = nI L → i ≤ 3072 → L < i + 6 + 6 * n → X 23 138 j_L_law 18 (LSL i) [] (138, P0, D) QL := by
  intro n
  induction n with
  | zero =>
    intro i D S h1 h2 hx hl hi hn
    exact L_head hl hL hi (fun _ => L_exit) (fun q => absurd q (by omega))
  | succ n ih =>
    intro i D S h1 h2 hx hl hi hn
    refine L_head hl hL hi (fun _ => L_exit) (fun q => L_body h1 h2 hx hl q hL (fun D' S' k1 k2 k3 k4 => ?_))
    refine X_iinc (v := nI (i + 6)) (ls' := LSL (i + 6)) (nx := 1154) dL_law_1151 rfl (by decide) rfl (nI_add i 6) rfl rfl ?_
    refine X_goto (tgt := 18) dL_law_1154 rfl ?_
    exact ih (i + 6) D' S' k1 k2 k3 k4 (by omega) (by omega)
theorem ptT_out : ∀ b, 138 ≤ b → P0 b = fun _ => none := by
  intro b hb
  funext i
  unfold P0
  have e : ptT.getD b [] = [] := by
    rw [List.getD_eq_getElem?_getD, List.getElem?_eq_none (Nat.le_trans (show ptT.length ≤ 138 from by decide +kernel) hb)]
    rfl
  rw [e]
  rfl
theorem law_begin {xs : Nat → Int32} {L : Nat} {D0 : Mem} (hL : L ≤ 3072) (hx : D0 2003 = xs) (hl : D0 2004 0 = nI L) : X 23 138 j_L_law 0 [some (.ref 2003), none, none, none] [] (0, fun _ _ => none, D0) QL := by
  have ok3 : ∀ n k, k ≤ 2003 → ∀ v, some v ∈ [some (Value.ref 2003), none, none, none] → okR n k v := by
    intro n k hk v hv
    simp at hv
    subst hv
    show ¬ (n ≤ 2003 ∧ 2003 < k)
    omega
  have ok4 : ∀ n k, 0 < n → k ≤ 2003 → ∀ v, some v ∈ [some (Value.ref 2003), some (Value.ref 0), none, none] → okR n k v := by
    intro n k hn hk v hv
    simp at hv
    rcases hv with hv | hv
    · subst hv
      show ¬ (n ≤ 2003 ∧ 2003 < k)
      omega
    · subst hv
      show ¬ (n ≤ 0 ∧ 0 < k)
      omega
  refine X_new (nx := 3) dL_law_0 rfl cf_X7 cl_RL_7 in_RX7.1 in_RX7.2 (show (lay 0).1 = 6 from by decide) (by show 0 < 138; omega) ⟨fun v hv => absurd hv List.not_mem_nil, ok3 _ _ (by show 0 + 1 ≤ 2003; omega)⟩ ?_
  refine X_dup (nx := 4) dL_law_3 rfl rfl ?_
  refine X_callI (a := 0) (As := []) (rest := [.ref 0]) (nx := 7) dL_law_4 rfl ml_RL_9 kj_X7_init ki_X7_init rfl rfl (sp_X7_init (NEWC.of rfl)) rfl (by decide) rfl (by decide) (by show 0 + 1 ≤ 104; omega) (by decide) (Or.inr ⟨fun v hv => ?_, ok3 _ _ (by decide)⟩) (fun vs σ1 g => ?_)
  · rw [List.mem_singleton] at hv
    subst hv
    show ¬ (0 + 1 ≤ 0 ∧ 0 < 104)
    omega
  obtain ⟨g0, g1, g2, g3, g4⟩ := g
  subst g0
  refine X_astore_n (i := 1) (ls' := [some (.ref 2003), some (.ref 0), none, none]) (nx := 8) dL_law_7 rfl rfl (by decide) rfl rfl ?_
  have e1 : σ1.1 = 104 := g1
  refine X_new (nx := 11) dL_law_8 rfl cf_X8 cl_RL_10 in_RX8.1 in_RX8.2 (by rw [e1]; decide) (by omega) ⟨fun v hv => absurd hv List.not_mem_nil, ok4 _ _ (by omega) (by omega)⟩ ?_
  rw [e1]
  refine X_dup (nx := 12) dL_law_11 rfl rfl ?_
  refine X_callI (a := 104) (As := []) (rest := [.ref 104]) (nx := 15) dL_law_12 rfl ml_RL_12 kj_X8_init ki_X8_init rfl rfl (sp_X8_init (NEWC.of e1)) rfl (by decide) rfl (by decide) (by show σ1.1 + 1 ≤ 138; omega) (by decide) (Or.inr ⟨fun v hv => ?_, ok4 _ _ (by show 0 < σ1.1 + 1; omega) (by decide)⟩) (fun vs σ2 k => ?_)
  · rw [List.mem_singleton] at hv
    subst hv
    show ¬ (σ1.1 + 1 ≤ 104 ∧ 104 < 138)
    omega
  obtain ⟨k0, k1, k2, k3, k4⟩ := k
  subst k0
  refine X_astore_n (i := 2) (ls' := [some (.ref 2003), some (.ref 0), some (.ref 104), none]) (nx := 16) dL_law_15 rfl rfl (by decide) rfl rfl ?_
  refine X_iconst (v := nI 0) (nx := 17) dL_law_16 rfl rfl ?_
  refine X_istore_n (i := 3) (ls' := LSL 0) (nx := 18) dL_law_17 rfl rfl (by decide) rfl rfl ?_
  have lowA : ∀ b, b < 104 → σ2.2.1 b = P0 b ∧ σ2.2.2 b = IM b := fun b hb => by
    have q := nw_ne (σ := σ1) (b := b) (by omega)
    have w := g3 b (Nat.zero_le _) hb
    exact ⟨(k2 b hb).1.trans (q.1.trans w.1), (k2 b hb).2.trans (q.2.trans w.2)⟩
  have upA : ∀ b, 138 ≤ b → σ2.2.1 b = (fun _ => none) ∧ σ2.2.2 b = D0 b := fun b hb => by
    have q := nw_ne (σ := σ1) (b := b) (by omega)
    have w := nw_ne (σ := ((0, fun _ _ => none, D0) : Wd)) (b := b) (by show b ≠ 0; omega)
    have x := g4 b (by omega)
    have y := k4 b hb
    exact ⟨y.1.trans (q.1.trans (x.1.trans w.1)), y.2.trans (q.2.trans (x.2.trans w.2))⟩
  have eP : σ2.2.1 = P0 := by
    funext b
    by_cases h1 : b < 104
    · exact (lowA b h1).1
    · by_cases h2 : b < 138
      · exact (k3 b (by omega) h2).1
      · rw [(upA b (by omega)).1, ptT_out b (by omega)]
  have eσ : σ2 = (138, P0, σ2.2.2) := by
    rw [← eP, ← k1]
  rw [eσ]
  refine law_loop (xs := xs) hL 512 0 σ2.2.2 S0_ (begin1 fun b hb => (lowA b hb).2) (begin2 fun b h1 h2 => (k3 b h1 h2).2) ?_ ?_ (by omega) (by omega)
  · exact ((upA 2003 (by omega)).2).trans hx
  · exact (congrFun (upA 2004 (by omega)).2 0).trans hl
