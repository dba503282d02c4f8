/-! MASKS as numbers -/
theorem nI_or (a b : Nat) : nI a ||| nI b = nI (a ||| b) := by
  apply Int32.toBitVec_inj.mp
  show BitVec.ofNat 32 a ||| BitVec.ofNat 32 b = BitVec.ofNat 32 (a ||| b)
  exact BitVec.ofNat_or.symm
theorem nI_and (a b : Nat) : nI a &&& nI b = nI (a &&& b) := by
  apply Int32.toBitVec_inj.mp
  show BitVec.ofNat 32 a &&& BitVec.ofNat 32 b = BitVec.ofNat 32 (a &&& b)
  exact BitVec.ofNat_and.symm
theorem nI_xor (a b : Nat) : nI a ^^^ nI b = nI (a ^^^ b) := by
  apply Int32.toBitVec_inj.mp
  show BitVec.ofNat 32 a ^^^ BitVec.ofNat 32 b = BitVec.ofNat 32 (a ^^^ b)
  exact BitVec.ofNat_xor.symm
theorem one_shl : ∀ k, k < 31 → (1 : Int32) <<< (nI k &&& 31) = nI (2 ^ k) := by decide +kernel
theorem shl_k : ∀ k, k < 32 → ((nI k &&& 31).toBitVec.smod 32).toNat = k := by decide +kernel
theorem shr_n {w k : Nat} (hw : w < 2147483648) (hk : k < 32) : nI w >>> (nI k &&& 31) = nI (w / 2 ^ k) := pk_shrN hw _ k (shl_k k hk)
theorem bit_n {w k : Nat} (hw : w < 2147483648) (hk : k < 32) : (nI w >>> (nI k &&& 31)) &&& 1 = nI ((w / 2 ^ k) % 2) := by
  rw [shr_n hw hk]
  exact pk_andN (n := w / 2 ^ k) (Nat.lt_of_le_of_lt (Nat.div_le_self _ _) (by omega)) 1 rfl
theorem tb_mod {w k : Nat} : (w / 2 ^ k) % 2 = if w.testBit k = true then 1 else 0 := by
  rw [Nat.testBit_eq_decide_div_mod_eq]
  by_cases h : w / 2 ^ k % 2 = 1
  · simp [h]
  · have : w / 2 ^ k % 2 = 0 := by omega
    simp [this]
/-- the mask of the first n at which p holds -/
def mkn (p : Nat → Bool) : Nat → Nat
  | 0 => 0
  | n + 1 => if p n = true then mkn p n ||| 2 ^ n else mkn p n
theorem mkn_tb {p : Nat → Bool} {k : Nat} : ∀ n, (mkn p n).testBit k = (decide (k < n) && p k) := by
  intro n
  induction n with
  | zero => simp [mkn]
  | succ n ih =>
    unfold mkn
    split
    · next h =>
      rw [Nat.testBit_or, ih, Nat.testBit_two_pow]
      by_cases hk : n = k
      · subst hk; simp [h]
      · have h1 : decide (k < n + 1) = decide (k < n) := decide_eq_decide.mpr (by omega)
        rw [h1]; simp [hk]
    · next h =>
      rw [ih]
      by_cases hk : n = k
      · subst hk; simp [h]
      · have h1 : decide (k < n + 1) = decide (k < n) := decide_eq_decide.mpr (by omega)
        rw [h1]
theorem lt_of_tb {w n : Nat} (h : ∀ k, n ≤ k → w.testBit k = false) : w < 2 ^ n := Nat.lt_pow_two_of_testBit w h
theorem mkn_lt (p : Nat → Bool) (n : Nat) : mkn p n < 2 ^ n := lt_of_tb fun k hk => by
  rw [mkn_tb, decide_eq_false (by omega)]; rfl
theorem mkn_congr {p q : Nat → Bool} {n : Nat} (h : ∀ k, k < n → p k = q k) : mkn p n = mkn q n := by
  induction n with
  | zero => rfl
  | succ n ih =>
    unfold mkn
    rw [h n (by omega), ih (fun k hk => h k (by omega))]
theorem mkn_0 {p : Nat → Bool} {n : Nat} : mkn p n = 0 ↔ ∀ k, k < n → p k = false := by
  constructor
  · intro h k hk
    have h1 := mkn_tb (p := p) (k := k) n
    rw [h, decide_eq_true hk] at h1
    simpa using h1.symm
  · intro h
    apply Nat.eq_of_testBit_eq
    intro k
    rw [mkn_tb]
    by_cases hk : k < n
    · rw [h k hk]; simp
    · rw [decide_eq_false hk]; simp
theorem tb_eq {a b n : Nat} (ha : a < 2 ^ n) (hb : b < 2 ^ n) (h : ∀ k, k < n → a.testBit k = b.testBit k) : a = b := by
  apply Nat.eq_of_testBit_eq
  intro k
  by_cases hk : k < n
  · exact h k hk
  · rw [Nat.testBit_lt_two_pow (Nat.lt_of_lt_of_le ha (Nat.pow_le_pow_right (by omega) (by omega))), Nat.testBit_lt_two_pow (Nat.lt_of_lt_of_le hb (Nat.pow_le_pow_right (by omega) (by omega)))]
theorem dX7_has_0 : decode cX7_has 0 = .ok (.iload_n 1, 1) := by decide +kernel
theorem dX7_has_1 : decode cX7_has 1 = .ok (.ifCond .lt 21, 3) := by decide +kernel
theorem dX7_has_4 : decode cX7_has 4 = .ok (.iload_n 1, 1) := by decide +kernel
theorem dX7_has_5 : decode cX7_has 5 = .ok (.bipush 32, 2) := by decide +kernel
theorem dX7_has_7 : decode cX7_has 7 = .ok (.if_icmp .ge 15, 3) := by decide +kernel
theorem dX7_has_10 : decode cX7_has 10 = .ok (.iload_n 0, 1) := by decide +kernel
theorem dX7_has_11 : decode cX7_has 11 = .ok (.iload_n 1, 1) := by decide +kernel
theorem dX7_has_12 : decode cX7_has 12 = .ok (.ishr, 1) := by decide +kernel
theorem dX7_has_13 : decode cX7_has 13 = .ok (.iconst 1, 1) := by decide +kernel
theorem dX7_has_14 : decode cX7_has 14 = .ok (.iand, 1) := by decide +kernel
theorem dX7_has_15 : decode cX7_has 15 = .ok (.ifCond .eq 7, 3) := by decide +kernel
theorem dX7_has_18 : decode cX7_has 18 = .ok (.iconst 1, 1) := by decide +kernel
theorem dX7_has_19 : decode cX7_has 19 = .ok (.goto 4, 3) := by decide +kernel
theorem dX7_has_22 : decode cX7_has 22 = .ok (.iconst 0, 1) := by decide +kernel
theorem dX7_has_23 : decode cX7_has 23 = .ok (.ireturn, 1) := by decide +kernel
theorem sp_X7_has {w k : Nat} {x y : Int32} {D : Mem} (hx : x = nI w) (hw : w < 2147483648) (hy : y = nI k) (hk : k < 32) : Ei 1 j_X7_has [.int x, .int y] D (b2i (w.testBit k)) (D) := by
  refine E.start 0 (ls := [some (.int x), some (.int y)]) (by decide +kernel) (Nat.le_of_ble_eq_true rfl) rfl (Nat.le_refl _) (Nat.le_refl _) ?_
  subst hx; subst hy
  have hb := (bit_n hw hk).trans (congrArg nI (tb_mod (w := w) (k := k)))
  refine X_iload_n (nx := 1) dX7_has_0 rfl rfl rfl ?_
  refine X_if_lt (tgt := 22) (nx := 4) dX7_has_1 rfl rfl (fun h1 => ?_) (fun h1 => ?_)
  · exact absurd h1 (nI_neg (by omega))
  · skip
    refine X_iload_n (nx := 5) dX7_has_4 rfl rfl rfl ?_
    refine X_bipush (v := nI 32) (nx := 7) dX7_has_5 rfl rfl ?_
    refine X_icmp_ge (tgt := 22) (nx := 10) dX7_has_7 rfl rfl (fun h7 => ?_) (fun h7 => ?_)
    · exact absurd h7 (nI_ge (by omega) (by omega))
    · skip
      refine X_iload_n (nx := 11) dX7_has_10 rfl rfl rfl ?_
      refine X_iload_n (nx := 12) dX7_has_11 rfl rfl rfl ?_
      refine X_ishr (nx := 13) dX7_has_12 rfl ?_
      refine X_iconst (v := 1) (nx := 14) dX7_has_13 rfl rfl ?_
      refine X_iand (nx := 15) dX7_has_14 rfl ?_
      refine X_top (hb) ?_
      refine X_if_eq (tgt := 22) (nx := 18) dX7_has_15 rfl rfl (fun h15 => ?_) (fun h15 => ?_)
      · skip
        refine X_iconst (v := 0) (nx := 23) dX7_has_22 rfl rfl ?_
        exact Y_reti dX7_has_23 (Or.inr ⟨rfl, by first | exact Or.inl rfl | exact Or.inr rfl | exact b2i_01 _ | assumption⟩) (by cases hq : w.testBit k <;> simp_all [b2i] <;> (revert h15; decide)) rfl
      · skip
        refine X_iconst (v := 1) (nx := 19) dX7_has_18 rfl rfl ?_
        refine X_goto (tgt := 23) dX7_has_19 rfl ?_
        exact Y_reti dX7_has_23 (Or.inr ⟨rfl, by first | exact Or.inl rfl | exact Or.inr rfl | exact b2i_01 _ | assumption⟩) (by cases hq : w.testBit k <;> simp_all [b2i] <;> (revert h15; decide)) rfl
theorem dX7_leastOf_0 : decode cX7_leastOf 0 = .ok (.iconst 0, 1) := by decide +kernel
theorem dX7_leastOf_1 : decode cX7_leastOf 1 = .ok (.istore_n 1, 1) := by decide +kernel
theorem dX7_leastOf_2 : decode cX7_leastOf 2 = .ok (.iload_n 0, 1) := by decide +kernel
theorem dX7_leastOf_3 : decode cX7_leastOf 3 = .ok (.ifCond .eq 25, 3) := by decide +kernel
theorem dX7_leastOf_6 : decode cX7_leastOf 6 = .ok (.iload_n 1, 1) := by decide +kernel
theorem dX7_leastOf_7 : decode cX7_leastOf 7 = .ok (.bipush 10, 2) := by decide +kernel
theorem dX7_leastOf_9 : decode cX7_leastOf 9 = .ok (.if_icmp .ge 19, 3) := by decide +kernel
theorem dX7_leastOf_12 : decode cX7_leastOf 12 = .ok (.iload_n 0, 1) := by decide +kernel
theorem dX7_leastOf_13 : decode cX7_leastOf 13 = .ok (.iload_n 1, 1) := by decide +kernel
theorem dX7_leastOf_14 : decode cX7_leastOf 14 = .ok (.invokestatic 303, 3) := by decide +kernel
theorem dX7_leastOf_17 : decode cX7_leastOf 17 = .ok (.ifCond .eq 5, 3) := by decide +kernel
theorem dX7_leastOf_20 : decode cX7_leastOf 20 = .ok (.iload_n 1, 1) := by decide +kernel
theorem dX7_leastOf_21 : decode cX7_leastOf 21 = .ok (.ireturn, 1) := by decide +kernel
theorem dX7_leastOf_22 : decode cX7_leastOf 22 = .ok (.iinc 1 1, 3) := by decide +kernel
theorem dX7_leastOf_25 : decode cX7_leastOf 25 = .ok (.goto (-23), 3) := by decide +kernel
theorem dX7_leastOf_28 : decode cX7_leastOf 28 = .ok (.bipush (-9), 2) := by decide +kernel
theorem dX7_leastOf_30 : decode cX7_leastOf 30 = .ok (.ireturn, 1) := by decide +kernel
theorem lp_X7_leastOf {w : Nat} {D : Mem} (hw : w < 1024) : ∀ (m : Nat) (i : Nat), i + m = 10 → X 2 138 j_X7_leastOf 2 [some (.int (nI w)), some (.int (nI i))] [] (138, P0, D) (fun r σ => r = [.int (opI (fst_ w.testBit i m))] ∧ σ = wd D) := by
  intro m
  induction m with
  | zero =>
    intro i hi
    have hw2 : w < 2147483648 := by omega
    have hw := hw2
    refine X_iload_n (nx := 3) dX7_leastOf_2 rfl rfl rfl ?_
    refine X_if_eq (tgt := 28) (nx := 6) dX7_leastOf_3 rfl rfl (fun h3 => ?_) (fun h3 => ?_)
    · skip
      refine X_bipush (v := -9) (nx := 30) dX7_leastOf_28 rfl rfl ?_
      exact Y_reti dX7_leastOf_30 (Or.inl rfl) rfl rfl
    · skip
      refine X_iload_n (nx := 7) dX7_leastOf_6 rfl rfl rfl ?_
      refine X_bipush (v := nI 10) (nx := 9) dX7_leastOf_7 rfl rfl ?_
      refine X_icmp_ge (tgt := 28) (nx := 12) dX7_leastOf_9 rfl rfl (fun h9 => ?_) (fun h9 => ?_)
      · skip
        refine X_bipush (v := -9) (nx := 30) dX7_leastOf_28 rfl rfl ?_
        exact Y_reti dX7_leastOf_30 (Or.inl rfl) rfl rfl
      · exact absurd h9 (fun q => q (nI_le (by omega) (by omega)))
  | succ m ih =>
    intro i hi
    have hw2 : w < 2147483648 := by omega
    have hw := hw2
    refine X_iload_n (nx := 3) dX7_leastOf_2 rfl rfl rfl ?_
    refine X_if_eq (tgt := 28) (nx := 6) dX7_leastOf_3 rfl rfl (fun h3 => ?_) (fun h3 => ?_)
    · skip
      refine X_bipush (v := -9) (nx := 30) dX7_leastOf_28 rfl rfl ?_
      exact Y_reti dX7_leastOf_30 (Or.inl rfl) (by rw [fst_intro_none (fun x _ _ => by have h0 : w = 0 := (nI_eq (by omega) (by omega)).mp h3; subst h0; exact Nat.zero_testBit x)]; rfl) rfl
    · skip
      refine X_iload_n (nx := 7) dX7_leastOf_6 rfl rfl rfl ?_
      refine X_bipush (v := nI 10) (nx := 9) dX7_leastOf_7 rfl rfl ?_
      refine X_icmp_ge (tgt := 28) (nx := 12) dX7_leastOf_9 rfl rfl (fun h9 => ?_) (fun h9 => ?_)
      · exact absurd h9 (nI_ge (by omega) (by omega))
      · skip
        refine X_iload_n (nx := 13) dX7_leastOf_12 rfl rfl rfl ?_
        refine X_iload_n (nx := 14) dX7_leastOf_13 rfl rfl rfl ?_
        refine Y_Si2 (nx := 17) dX7_leastOf_14 rfl ml_RX7_303 kj_X7_has ks_X7_has (sp_X7_has (w := w) (k := i) rfl hw rfl (by omega)) (by first | decide | omega) (by exact Nat.le_of_ble_eq_true rfl) ?_
        refine X_if_eq (tgt := 22) (nx := 20) dX7_leastOf_17 rfl rfl (fun h17 => ?_) (fun h17 => ?_)
        · skip
          refine X_iinc (nx := 25) dX7_leastOf_22 rfl (by decide) rfl (by first | exact ii1 _ | rfl) rfl (st_s (st_0)) ?_
          refine X_goto (tgt := 2) dX7_leastOf_25 rfl ?_
          rw [fst_step (b2i_f.mp h17)]
          exact ih (i + 1) (by omega)
        · skip
          refine X_iload_n (nx := 21) dX7_leastOf_20 rfl rfl rfl ?_
          exact Y_reti dX7_leastOf_21 (Or.inl rfl) (by rw [fst_hit (b2i_t.mp h17)]; rfl) rfl
theorem sp_X7_leastOf {w : Nat} {x : Int32} {D : Mem} (hx : x = nI w) (hw : w < 1024) : Ei 2 j_X7_leastOf [.int x] D (opI (fst_ w.testBit 0 10)) (D) := by
  refine E.start 1 (ls := [some (.int x), none]) (by decide +kernel) (Nat.le_of_ble_eq_true rfl) rfl (Nat.le_refl _) (Nat.le_refl _) ?_
  subst hx
  refine X_iconst (v := 0) (nx := 1) dX7_leastOf_0 rfl rfl ?_
  refine X_istore_n (i := 1) (nx := 2) dX7_leastOf_1 rfl rfl (by decide) rfl (st_s (st_0)) ?_
  exact lp_X7_leastOf hw 10 0 rfl
theorem dX7_nextSeed_0 : decode cX7_nextSeed 0 = .ok (.iload_n 0, 1) := by decide +kernel
theorem dX7_nextSeed_1 : decode cX7_nextSeed 1 = .ok (.ldc_w 310, 3) := by decide +kernel
theorem dX7_nextSeed_4 : decode cX7_nextSeed 4 = .ok (.imul, 1) := by decide +kernel
theorem dX7_nextSeed_5 : decode cX7_nextSeed 5 = .ok (.ldc_w 311, 3) := by decide +kernel
theorem dX7_nextSeed_8 : decode cX7_nextSeed 8 = .ok (.iadd, 1) := by decide +kernel
theorem dX7_nextSeed_9 : decode cX7_nextSeed 9 = .ok (.ireturn, 1) := by decide +kernel
theorem sp_X7_nextSeed {x : Int32} {D : Mem} : Ei 1 j_X7_nextSeed [.int x] D (x * 1664525 + 1013904223) (D) := by
  refine E.start 0 (ls := [some (.int x)]) (by decide +kernel) (Nat.le_of_ble_eq_true rfl) rfl (Nat.le_refl _) (Nat.le_refl _) ?_
  refine X_iload_n (nx := 1) dX7_nextSeed_0 rfl rfl rfl ?_
  refine X_ldcw (nx := 4) dX7_nextSeed_1 rfl ct_RX7_310 ?_
  refine X_imul (nx := 5) dX7_nextSeed_4 rfl ?_
  refine X_ldcw (nx := 8) dX7_nextSeed_5 rfl ct_RX7_311 ?_
  refine X_iadd (nx := 9) dX7_nextSeed_8 rfl ?_
  exact Y_reti dX7_nextSeed_9 (Or.inl rfl) rfl rfl
theorem dX7_drawn_0 : decode cX7_drawn 0 = .ok (.iload_n 0, 1) := by decide +kernel
theorem dX7_drawn_1 : decode cX7_drawn 1 = .ok (.ldc_w 312, 3) := by decide +kernel
theorem dX7_drawn_4 : decode cX7_drawn 4 = .ok (.iand, 1) := by decide +kernel
theorem dX7_drawn_5 : decode cX7_drawn 5 = .ok (.sipush 256, 3) := by decide +kernel
theorem dX7_drawn_8 : decode cX7_drawn 8 = .ok (.idiv, 1) := by decide +kernel
theorem dX7_drawn_9 : decode cX7_drawn 9 = .ok (.ireturn, 1) := by decide +kernel
theorem sp_X7_drawn {x : Int32} {D : Mem} : Ei 1 j_X7_drawn [.int x] D ((x &&& 2147483647) / 256) (D) := by
  refine E.start 0 (ls := [some (.int x)]) (by decide +kernel) (Nat.le_of_ble_eq_true rfl) rfl (Nat.le_refl _) (Nat.le_refl _) ?_
  refine X_iload_n (nx := 1) dX7_drawn_0 rfl rfl rfl ?_
  refine X_ldcw (nx := 4) dX7_drawn_1 rfl ct_RX7_312 ?_
  refine X_iand (nx := 5) dX7_drawn_4 rfl ?_
  refine X_sipush (v := 256) (nx := 8) dX7_drawn_5 rfl rfl ?_
  refine X_idiv (nx := 9) dX7_drawn_8 rfl (by decide) ?_
  exact Y_reti dX7_drawn_9 (Or.inl rfl) rfl rfl
theorem dJ6_bitCount_0f7a4_0 : decode cJ6_bitCount_0f7a4 0 = .ok (.iload_n 0, 1) := by decide +kernel
theorem dJ6_bitCount_0f7a4_1 : decode cJ6_bitCount_0f7a4 1 = .ok (.iload_n 0, 1) := by decide +kernel
theorem dJ6_bitCount_0f7a4_2 : decode cJ6_bitCount_0f7a4 2 = .ok (.iconst 1, 1) := by decide +kernel
theorem dJ6_bitCount_0f7a4_3 : decode cJ6_bitCount_0f7a4 3 = .ok (.iushr, 1) := by decide +kernel
theorem dJ6_bitCount_0f7a4_4 : decode cJ6_bitCount_0f7a4 4 = .ok (.ldc_w 265, 3) := by decide +kernel
theorem dJ6_bitCount_0f7a4_7 : decode cJ6_bitCount_0f7a4 7 = .ok (.iand, 1) := by decide +kernel
theorem dJ6_bitCount_0f7a4_8 : decode cJ6_bitCount_0f7a4 8 = .ok (.isub, 1) := by decide +kernel
theorem dJ6_bitCount_0f7a4_9 : decode cJ6_bitCount_0f7a4 9 = .ok (.istore_n 0, 1) := by decide +kernel
theorem dJ6_bitCount_0f7a4_10 : decode cJ6_bitCount_0f7a4 10 = .ok (.iload_n 0, 1) := by decide +kernel
theorem dJ6_bitCount_0f7a4_11 : decode cJ6_bitCount_0f7a4 11 = .ok (.ldc_w 266, 3) := by decide +kernel
theorem dJ6_bitCount_0f7a4_14 : decode cJ6_bitCount_0f7a4 14 = .ok (.iand, 1) := by decide +kernel
theorem dJ6_bitCount_0f7a4_15 : decode cJ6_bitCount_0f7a4 15 = .ok (.iload_n 0, 1) := by decide +kernel
theorem dJ6_bitCount_0f7a4_16 : decode cJ6_bitCount_0f7a4 16 = .ok (.iconst 2, 1) := by decide +kernel
theorem dJ6_bitCount_0f7a4_17 : decode cJ6_bitCount_0f7a4 17 = .ok (.iushr, 1) := by decide +kernel
theorem dJ6_bitCount_0f7a4_18 : decode cJ6_bitCount_0f7a4 18 = .ok (.ldc_w 266, 3) := by decide +kernel
theorem dJ6_bitCount_0f7a4_21 : decode cJ6_bitCount_0f7a4 21 = .ok (.iand, 1) := by decide +kernel
theorem dJ6_bitCount_0f7a4_22 : decode cJ6_bitCount_0f7a4 22 = .ok (.iadd, 1) := by decide +kernel
theorem dJ6_bitCount_0f7a4_23 : decode cJ6_bitCount_0f7a4 23 = .ok (.istore_n 0, 1) := by decide +kernel
theorem dJ6_bitCount_0f7a4_24 : decode cJ6_bitCount_0f7a4 24 = .ok (.iload_n 0, 1) := by decide +kernel
theorem dJ6_bitCount_0f7a4_25 : decode cJ6_bitCount_0f7a4 25 = .ok (.iload_n 0, 1) := by decide +kernel
theorem dJ6_bitCount_0f7a4_26 : decode cJ6_bitCount_0f7a4 26 = .ok (.iconst 4, 1) := by decide +kernel
theorem dJ6_bitCount_0f7a4_27 : decode cJ6_bitCount_0f7a4 27 = .ok (.iushr, 1) := by decide +kernel
theorem dJ6_bitCount_0f7a4_28 : decode cJ6_bitCount_0f7a4 28 = .ok (.iadd, 1) := by decide +kernel
theorem dJ6_bitCount_0f7a4_29 : decode cJ6_bitCount_0f7a4 29 = .ok (.ldc_w 267, 3) := by decide +kernel
theorem dJ6_bitCount_0f7a4_32 : decode cJ6_bitCount_0f7a4 32 = .ok (.iand, 1) := by decide +kernel
theorem dJ6_bitCount_0f7a4_33 : decode cJ6_bitCount_0f7a4 33 = .ok (.istore_n 0, 1) := by decide +kernel
theorem dJ6_bitCount_0f7a4_34 : decode cJ6_bitCount_0f7a4 34 = .ok (.iload_n 0, 1) := by decide +kernel
theorem dJ6_bitCount_0f7a4_35 : decode cJ6_bitCount_0f7a4 35 = .ok (.iload_n 0, 1) := by decide +kernel
theorem dJ6_bitCount_0f7a4_36 : decode cJ6_bitCount_0f7a4 36 = .ok (.bipush 8, 2) := by decide +kernel
theorem dJ6_bitCount_0f7a4_38 : decode cJ6_bitCount_0f7a4 38 = .ok (.iushr, 1) := by decide +kernel
theorem dJ6_bitCount_0f7a4_39 : decode cJ6_bitCount_0f7a4 39 = .ok (.iadd, 1) := by decide +kernel
theorem dJ6_bitCount_0f7a4_40 : decode cJ6_bitCount_0f7a4 40 = .ok (.istore_n 0, 1) := by decide +kernel
theorem dJ6_bitCount_0f7a4_41 : decode cJ6_bitCount_0f7a4 41 = .ok (.iload_n 0, 1) := by decide +kernel
theorem dJ6_bitCount_0f7a4_42 : decode cJ6_bitCount_0f7a4 42 = .ok (.iload_n 0, 1) := by decide +kernel
theorem dJ6_bitCount_0f7a4_43 : decode cJ6_bitCount_0f7a4 43 = .ok (.bipush 16, 2) := by decide +kernel
theorem dJ6_bitCount_0f7a4_45 : decode cJ6_bitCount_0f7a4 45 = .ok (.iushr, 1) := by decide +kernel
theorem dJ6_bitCount_0f7a4_46 : decode cJ6_bitCount_0f7a4 46 = .ok (.iadd, 1) := by decide +kernel
theorem dJ6_bitCount_0f7a4_47 : decode cJ6_bitCount_0f7a4 47 = .ok (.istore_n 0, 1) := by decide +kernel
theorem dJ6_bitCount_0f7a4_48 : decode cJ6_bitCount_0f7a4 48 = .ok (.iload_n 0, 1) := by decide +kernel
theorem dJ6_bitCount_0f7a4_49 : decode cJ6_bitCount_0f7a4 49 = .ok (.bipush 63, 2) := by decide +kernel
theorem dJ6_bitCount_0f7a4_51 : decode cJ6_bitCount_0f7a4 51 = .ok (.iand, 1) := by decide +kernel
theorem dJ6_bitCount_0f7a4_52 : decode cJ6_bitCount_0f7a4 52 = .ok (.ireturn, 1) := by decide +kernel
def bc1 (x : Int32) : Int32 := x - ((x.toUInt32 >>> ((1 : Int32).toUInt32 &&& Int32.toUInt32 31)).toInt32 &&& 1431655765)
def bc2 (x : Int32) : Int32 := (x &&& 858993459) + ((x.toUInt32 >>> ((2 : Int32).toUInt32 &&& Int32.toUInt32 31)).toInt32 &&& 858993459)
def bc3 (x : Int32) : Int32 := (x + (x.toUInt32 >>> ((4 : Int32).toUInt32 &&& Int32.toUInt32 31)).toInt32) &&& 252645135
def bc4 (x : Int32) : Int32 := x + (x.toUInt32 >>> ((8 : Int32).toUInt32 &&& Int32.toUInt32 31)).toInt32
def bc5 (x : Int32) : Int32 := x + (x.toUInt32 >>> ((16 : Int32).toUInt32 &&& Int32.toUInt32 31)).toInt32
/-- how many bits, of ten -/
def pop (w : Nat) : Nat := ((List.range 10).filter (fun k => w.testBit k)).length
theorem bc_all : ∀ w, w < 1024 → (bc5 (bc4 (bc3 (bc2 (bc1 (nI w))))) &&& 63) = nI (pop w) := by decide +kernel
theorem sp_J6_bitCount_0f7a4 {w : Nat} {x : Int32} {D : Mem} (hx : x = nI w) (hw : w < 1024) : Ei 1 j_J6_bitCount_0f7a4 [.int x] D (nI (pop w)) (D) := by
  refine E.start 0 (ls := [some (.int x)]) (by decide +kernel) (Nat.le_of_ble_eq_true rfl) rfl (Nat.le_refl _) (Nat.le_refl _) ?_
  subst hx
  refine X_iload_n (nx := 1) dJ6_bitCount_0f7a4_0 rfl rfl rfl ?_
  refine X_iload_n (nx := 2) dJ6_bitCount_0f7a4_1 rfl rfl rfl ?_
  refine X_iconst (v := 1) (nx := 3) dJ6_bitCount_0f7a4_2 rfl rfl ?_
  refine X_iushr (nx := 4) dJ6_bitCount_0f7a4_3 rfl rfl ?_
  refine X_ldcw (nx := 7) dJ6_bitCount_0f7a4_4 rfl ct_RJ6_265 ?_
  refine X_iand (nx := 8) dJ6_bitCount_0f7a4_7 rfl ?_
  refine X_isub (nx := 9) dJ6_bitCount_0f7a4_8 rfl ?_
  refine X_istore_n (i := 0) (nx := 10) dJ6_bitCount_0f7a4_9 rfl rfl (by decide) rfl (st_0) ?_
  refine X_iload_n (nx := 11) dJ6_bitCount_0f7a4_10 rfl rfl rfl ?_
  refine X_ldcw (nx := 14) dJ6_bitCount_0f7a4_11 rfl ct_RJ6_266 ?_
  refine X_iand (nx := 15) dJ6_bitCount_0f7a4_14 rfl ?_
  refine X_iload_n (nx := 16) dJ6_bitCount_0f7a4_15 rfl rfl rfl ?_
  refine X_iconst (v := 2) (nx := 17) dJ6_bitCount_0f7a4_16 rfl rfl ?_
  refine X_iushr (nx := 18) dJ6_bitCount_0f7a4_17 rfl rfl ?_
  refine X_ldcw (nx := 21) dJ6_bitCount_0f7a4_18 rfl ct_RJ6_266 ?_
  refine X_iand (nx := 22) dJ6_bitCount_0f7a4_21 rfl ?_
  refine X_iadd (nx := 23) dJ6_bitCount_0f7a4_22 rfl ?_
  refine X_istore_n (i := 0) (nx := 24) dJ6_bitCount_0f7a4_23 rfl rfl (by decide) rfl (st_0) ?_
  refine X_iload_n (nx := 25) dJ6_bitCount_0f7a4_24 rfl rfl rfl ?_
  refine X_iload_n (nx := 26) dJ6_bitCount_0f7a4_25 rfl rfl rfl ?_
  refine X_iconst (v := 4) (nx := 27) dJ6_bitCount_0f7a4_26 rfl rfl ?_
  refine X_iushr (nx := 28) dJ6_bitCount_0f7a4_27 rfl rfl ?_
  refine X_iadd (nx := 29) dJ6_bitCount_0f7a4_28 rfl ?_
  refine X_ldcw (nx := 32) dJ6_bitCount_0f7a4_29 rfl ct_RJ6_267 ?_
  refine X_iand (nx := 33) dJ6_bitCount_0f7a4_32 rfl ?_
  refine X_istore_n (i := 0) (nx := 34) dJ6_bitCount_0f7a4_33 rfl rfl (by decide) rfl (st_0) ?_
  refine X_iload_n (nx := 35) dJ6_bitCount_0f7a4_34 rfl rfl rfl ?_
  refine X_iload_n (nx := 36) dJ6_bitCount_0f7a4_35 rfl rfl rfl ?_
  refine X_bipush (v := 8) (nx := 38) dJ6_bitCount_0f7a4_36 rfl rfl ?_
  refine X_iushr (nx := 39) dJ6_bitCount_0f7a4_38 rfl rfl ?_
  refine X_iadd (nx := 40) dJ6_bitCount_0f7a4_39 rfl ?_
  refine X_istore_n (i := 0) (nx := 41) dJ6_bitCount_0f7a4_40 rfl rfl (by decide) rfl (st_0) ?_
  refine X_iload_n (nx := 42) dJ6_bitCount_0f7a4_41 rfl rfl rfl ?_
  refine X_iload_n (nx := 43) dJ6_bitCount_0f7a4_42 rfl rfl rfl ?_
  refine X_bipush (v := 16) (nx := 45) dJ6_bitCount_0f7a4_43 rfl rfl ?_
  refine X_iushr (nx := 46) dJ6_bitCount_0f7a4_45 rfl rfl ?_
  refine X_iadd (nx := 47) dJ6_bitCount_0f7a4_46 rfl ?_
  refine X_istore_n (i := 0) (nx := 48) dJ6_bitCount_0f7a4_47 rfl rfl (by decide) rfl (st_0) ?_
  refine X_iload_n (nx := 49) dJ6_bitCount_0f7a4_48 rfl rfl rfl ?_
  refine X_bipush (v := 63) (nx := 51) dJ6_bitCount_0f7a4_49 rfl rfl ?_
  refine X_iand (nx := 52) dJ6_bitCount_0f7a4_51 rfl ?_
  exact Y_reti dJ6_bitCount_0f7a4_52 (Or.inl rfl) (bc_all w hw) rfl
