/-! THE WALK: strings of the orders, the next node, the end -/
theorem Y_retN {d pc : Nat} {j : MI} {ls : List (Option Value)} {D : Mem} {v v0 : Int32} {D0 : Mem} (hd : decode j.2.1 pc = .ok (.ireturn, 1)) (ht : ∃ ty, j.2.2.2 = some ty ∧ narrow ty (.int v) = .int v) (hv : v = v0) (hD : D = D0) : X d 138 j pc ls [.int v] (138, P0, D) (fun r σ => r = [.int v0] ∧ σ = wd D0) := by
  subst hv; subst hD
  exact X_ret ⟨ht, hd⟩ rfl ⟨rfl, rfl⟩
/-- the steps of an order, told in letters -/
def ordS (i : Nat) : List Nat := [[69, 76, 65, 67, 82, 77], [77, 69, 76, 67, 65, 82, 77], [82, 69, 76, 65, 67, 82, 77], [69, 76, 67, 65, 82, 77]].getD i []
def oi (k : Nat) : Nat := if k = 1 then 0 else if k = 2 then 1 else if k = 3 then 2 else 3
theorem oi_lt (k : Nat) : oi k < 4 := by unfold oi; split <;> (try split) <;> (try split) <;> omega
theorem lenS_o : ∀ i, i < 4 → lenS.getD i 0 = (ordS i).length ∧ (ordS i).length ≤ 7 ∧ 6 ≤ (ordS i).length := by decide
theorem bytS_o : ∀ i, i < 4 → ∀ k, k < 7 → ((bytS.getD i []).getD k 0 &&& 255) = nI ((ordS i).getD k 0) ∧ ((nI ((ordS i).getD k 0)).toUInt32 % 65536).toInt32 = nI ((ordS i).getD k 0) ∧ (ordS i).getD k 0 < 128 := by decide
theorem dJ0_coder_7d493_0 : decode cJ0_coder_7d493 0 = .ok (.getstatic 38, 3) := by decide +kernel
theorem dJ0_coder_7d493_3 : decode cJ0_coder_7d493 3 = .ok (.ifCond .eq 10, 3) := by decide +kernel
theorem dJ0_coder_7d493_6 : decode cJ0_coder_7d493 6 = .ok (.aload_n 0, 1) := by decide +kernel
theorem dJ0_coder_7d493_7 : decode cJ0_coder_7d493 7 = .ok (.getfield 15, 3) := by decide +kernel
theorem dJ0_coder_7d493_10 : decode cJ0_coder_7d493 10 = .ok (.goto 4, 3) := by decide +kernel
theorem dJ0_coder_7d493_13 : decode cJ0_coder_7d493 13 = .ok (.iconst 1, 1) := by decide +kernel
theorem dJ0_coder_7d493_14 : decode cJ0_coder_7d493 14 = .ok (.ireturn, 1) := by decide +kernel
theorem sp_J0_coder_7d493 {i : Nat} {D : Mem} (hi : i < 4) : Ei 1 j_J0_coder_7d493 [.ref (2010 + i)] D (0) (D) := by
  refine E.start 0 (ls := [some (.ref (2010 + i))]) (by decide +kernel) (Nat.le_of_ble_eq_true rfl) rfl (Nat.le_refl _) (Nat.le_refl _) ?_
  refine X_gs_cmp (nx := 3) dJ0_coder_7d493_0 rfl gs_RJ0_38 ?_
  refine X_if_eq (tgt := 13) (nx := 6) dJ0_coder_7d493_3 rfl rfl (fun h3 => ?_) (fun h3 => ?_)
  · exact absurd h3 (by decide)
  · skip
    refine X_aload_n (nx := 7) dJ0_coder_7d493_6 rfl rfl rfl ?_
    refine X_strC (nx := 10) dJ0_coder_7d493_7 rfl (by assumption) gs_RJ0_15 ?_
    refine X_goto (tgt := 14) dJ0_coder_7d493_10 rfl ?_
    exact Y_retN dJ0_coder_7d493_14 ⟨_, rfl, rfl⟩ rfl rfl
theorem dJ0_length_8abf5_0 : decode cJ0_length_8abf5 0 = .ok (.aload_n 0, 1) := by decide +kernel
theorem dJ0_length_8abf5_1 : decode cJ0_length_8abf5 1 = .ok (.getfield 9, 3) := by decide +kernel
theorem dJ0_length_8abf5_4 : decode cJ0_length_8abf5 4 = .ok (.arraylength, 1) := by decide +kernel
theorem dJ0_length_8abf5_5 : decode cJ0_length_8abf5 5 = .ok (.aload_n 0, 1) := by decide +kernel
theorem dJ0_length_8abf5_6 : decode cJ0_length_8abf5 6 = .ok (.invokevirtual 335, 3) := by decide +kernel
theorem dJ0_length_8abf5_9 : decode cJ0_length_8abf5 9 = .ok (.ishr, 1) := by decide +kernel
theorem dJ0_length_8abf5_10 : decode cJ0_length_8abf5 10 = .ok (.ireturn, 1) := by decide +kernel
theorem sp_J0_length_8abf5 {i : Nat} {D : Mem} (hi : i < 4) : Ei 2 j_J0_length_8abf5 [.ref (2010 + i)] D (nI (ordS i).length) (D) := by
  refine E.start 0 (ls := [some (.ref (2010 + i))]) (by decide +kernel) (Nat.le_of_ble_eq_true rfl) rfl (Nat.le_refl _) (Nat.le_refl _) ?_
  refine X_aload_n (nx := 1) dJ0_length_8abf5_0 rfl rfl rfl ?_
  refine X_strV (nx := 4) dJ0_length_8abf5_1 rfl (by assumption) gs_RJ0_9 ?_
  refine X_blen (nx := 5) dJ0_length_8abf5_4 rfl hi ?_
  refine X_aload_n (nx := 6) dJ0_length_8abf5_5 rfl rfl rfl ?_
  refine Y_Ti0 (nx := 9) dJ0_length_8abf5_6 rfl ml_RJ0_335 kj_J0_coder_7d493 kv_J0_coder_7d493 (sp_J0_coder_7d493 hi) (by first | assumption | rfl | decide | omega) rfl (by first | decide | omega) (by exact Nat.le_of_ble_eq_true rfl) ?_
  refine X_ishr (nx := 10) dJ0_length_8abf5_9 rfl ?_
  refine X_top (sb_shr0 _) ?_
  exact Y_reti dJ0_length_8abf5_10 (Or.inl rfl) (congrArg nI (lenS_o i hi).1) rfl
theorem dJ0_isLatin1_aae02_0 : decode cJ0_isLatin1_aae02 0 = .ok (.getstatic 38, 3) := by decide +kernel
theorem dJ0_isLatin1_aae02_3 : decode cJ0_isLatin1_aae02 3 = .ok (.ifCond .eq 14, 3) := by decide +kernel
theorem dJ0_isLatin1_aae02_6 : decode cJ0_isLatin1_aae02 6 = .ok (.aload_n 0, 1) := by decide +kernel
theorem dJ0_isLatin1_aae02_7 : decode cJ0_isLatin1_aae02 7 = .ok (.getfield 15, 3) := by decide +kernel
theorem dJ0_isLatin1_aae02_10 : decode cJ0_isLatin1_aae02 10 = .ok (.ifCond .ne 7, 3) := by decide +kernel
theorem dJ0_isLatin1_aae02_13 : decode cJ0_isLatin1_aae02 13 = .ok (.iconst 1, 1) := by decide +kernel
theorem dJ0_isLatin1_aae02_14 : decode cJ0_isLatin1_aae02 14 = .ok (.goto 4, 3) := by decide +kernel
theorem dJ0_isLatin1_aae02_17 : decode cJ0_isLatin1_aae02 17 = .ok (.iconst 0, 1) := by decide +kernel
theorem dJ0_isLatin1_aae02_18 : decode cJ0_isLatin1_aae02 18 = .ok (.ireturn, 1) := by decide +kernel
theorem sp_J0_isLatin1_aae02 {i : Nat} {D : Mem} (hi : i < 4) : Ei 1 j_J0_isLatin1_aae02 [.ref (2010 + i)] D (1) (D) := by
  refine E.start 0 (ls := [some (.ref (2010 + i))]) (by decide +kernel) (Nat.le_of_ble_eq_true rfl) rfl (Nat.le_refl _) (Nat.le_refl _) ?_
  refine X_gs_cmp (nx := 3) dJ0_isLatin1_aae02_0 rfl gs_RJ0_38 ?_
  refine X_if_eq (tgt := 17) (nx := 6) dJ0_isLatin1_aae02_3 rfl rfl (fun h3 => ?_) (fun h3 => ?_)
  · exact absurd h3 (by decide)
  · skip
    refine X_aload_n (nx := 7) dJ0_isLatin1_aae02_6 rfl rfl rfl ?_
    refine X_strC (nx := 10) dJ0_isLatin1_aae02_7 rfl (by assumption) gs_RJ0_15 ?_
    refine X_if_ne (tgt := 17) (nx := 13) dJ0_isLatin1_aae02_10 rfl rfl (fun h10 => ?_) (fun h10 => ?_)
    · exact absurd h10 (by decide)
    · skip
      refine X_iconst (v := 1) (nx := 14) dJ0_isLatin1_aae02_13 rfl rfl ?_
      refine X_goto (tgt := 18) dJ0_isLatin1_aae02_14 rfl ?_
      exact Y_reti dJ0_isLatin1_aae02_18 (Or.inr ⟨rfl, by first | exact Or.inl rfl | exact Or.inr rfl | exact b2i_01 _ | assumption⟩) rfl rfl
theorem dJ3_checkIndex_8e157_0 : decode cJ3_checkIndex_8e157 0 = .ok (.iload_n 0, 1) := by decide +kernel
theorem dJ3_checkIndex_8e157_1 : decode cJ3_checkIndex_8e157 1 = .ok (.ifCond .lt 8, 3) := by decide +kernel
theorem dJ3_checkIndex_8e157_4 : decode cJ3_checkIndex_8e157 4 = .ok (.iload_n 0, 1) := by decide +kernel
theorem dJ3_checkIndex_8e157_5 : decode cJ3_checkIndex_8e157 5 = .ok (.iload_n 1, 1) := by decide +kernel
theorem dJ3_checkIndex_8e157_6 : decode cJ3_checkIndex_8e157 6 = .ok (.if_icmp .lt 10, 3) := by decide +kernel
theorem dJ3_checkIndex_8e157_9 : decode cJ3_checkIndex_8e157 9 = .ok (.aload_n 2, 1) := by decide +kernel
theorem dJ3_checkIndex_8e157_10 : decode cJ3_checkIndex_8e157 10 = .ok (.iload_n 0, 1) := by decide +kernel
theorem dJ3_checkIndex_8e157_11 : decode cJ3_checkIndex_8e157 11 = .ok (.iload_n 1, 1) := by decide +kernel
theorem dJ3_checkIndex_8e157_12 : decode cJ3_checkIndex_8e157 12 = .ok (.invokestatic 95, 3) := by decide +kernel
theorem dJ3_checkIndex_8e157_15 : decode cJ3_checkIndex_8e157 15 = .ok (.athrow, 1) := by decide +kernel
theorem dJ3_checkIndex_8e157_16 : decode cJ3_checkIndex_8e157 16 = .ok (.iload_n 0, 1) := by decide +kernel
theorem dJ3_checkIndex_8e157_17 : decode cJ3_checkIndex_8e157 17 = .ok (.ireturn, 1) := by decide +kernel
theorem sp_J3_ci_n {k n : Nat} {x y : Int32} {D : Mem} (hx : x = nI k) (hy : y = nI n) (hk : k < n) (hn : n < 2147483648) : Ei 1 j_J3_checkIndex_8e157 [.int x, .int y, .null] D (nI k) (D) := by
  refine E.start 0 (ls := [some (.int x), some (.int y), some (.null)]) (by decide +kernel) (Nat.le_of_ble_eq_true rfl) rfl (Nat.le_refl _) (Nat.le_refl _) ?_
  subst hx; subst hy
  refine X_iload_n (nx := 1) dJ3_checkIndex_8e157_0 rfl rfl rfl ?_
  refine X_if_lt (tgt := 9) (nx := 4) dJ3_checkIndex_8e157_1 rfl rfl (fun h1 => ?_) (fun h1 => ?_)
  · exact absurd h1 (nI_neg (by omega))
  · skip
    refine X_iload_n (nx := 5) dJ3_checkIndex_8e157_4 rfl rfl rfl ?_
    refine X_iload_n (nx := 6) dJ3_checkIndex_8e157_5 rfl rfl rfl ?_
    refine X_icmp_lt (tgt := 16) (nx := 9) dJ3_checkIndex_8e157_6 rfl rfl (fun h6 => ?_) (fun h6 => ?_)
    · skip
      refine X_iload_n (nx := 17) dJ3_checkIndex_8e157_16 rfl rfl rfl ?_
      exact Y_reti dJ3_checkIndex_8e157_17 (Or.inl rfl) rfl rfl
    · exact absurd h6 (fun q => q (nI_lt (by omega) (by omega)))
theorem sp_J3_ci_r {k n : Nat} {x y : Int32} {D : Mem} (hx : x = nI k) (hy : y = nI n) (hk : k < n) (hn : n < 2147483648) : Ei 1 j_J3_checkIndex_8e157 [.int x, .int y, .ref 2030] D (nI k) (D) := by
  refine E.start 0 (ls := [some (.int x), some (.int y), some (.ref 2030)]) (by decide +kernel) (Nat.le_of_ble_eq_true rfl) rfl (Nat.le_refl _) (Nat.le_refl _) ?_
  subst hx; subst hy
  refine X_iload_n (nx := 1) dJ3_checkIndex_8e157_0 rfl rfl rfl ?_
  refine X_if_lt (tgt := 9) (nx := 4) dJ3_checkIndex_8e157_1 rfl rfl (fun h1 => ?_) (fun h1 => ?_)
  · exact absurd h1 (nI_neg (by omega))
  · skip
    refine X_iload_n (nx := 5) dJ3_checkIndex_8e157_4 rfl rfl rfl ?_
    refine X_iload_n (nx := 6) dJ3_checkIndex_8e157_5 rfl rfl rfl ?_
    refine X_icmp_lt (tgt := 16) (nx := 9) dJ3_checkIndex_8e157_6 rfl rfl (fun h6 => ?_) (fun h6 => ?_)
    · skip
      refine X_iload_n (nx := 17) dJ3_checkIndex_8e157_16 rfl rfl rfl ?_
      exact Y_reti dJ3_checkIndex_8e157_17 (Or.inl rfl) rfl rfl
    · exact absurd h6 (fun q => q (nI_lt (by omega) (by omega)))
theorem dJ0_checkIndex_df160_0 : decode cJ0_checkIndex_df160 0 = .ok (.iload_n 0, 1) := by decide +kernel
theorem dJ0_checkIndex_df160_1 : decode cJ0_checkIndex_df160 1 = .ok (.iload_n 1, 1) := by decide +kernel
theorem dJ0_checkIndex_df160_2 : decode cJ0_checkIndex_df160 2 = .ok (.getstatic 1053, 3) := by decide +kernel
theorem dJ0_checkIndex_df160_5 : decode cJ0_checkIndex_df160 5 = .ok (.invokestatic 1059, 3) := by decide +kernel
theorem dJ0_checkIndex_df160_8 : decode cJ0_checkIndex_df160 8 = .ok (.pop, 1) := by decide +kernel
theorem dJ0_checkIndex_df160_9 : decode cJ0_checkIndex_df160 9 = .ok (.return_, 1) := by decide +kernel
theorem sp_J0_checkIndex_df160 {k n : Nat} {x y : Int32} {D : Mem} (hx : x = nI k) (hy : y = nI n) (hk : k < n) (hn : n < 2147483648) : Ev 2 j_J0_checkIndex_df160 [.int x, .int y] D (D) := by
  refine E.start 0 (ls := [some (.int x), some (.int y)]) (by decide +kernel) (Nat.le_of_ble_eq_true rfl) rfl (Nat.le_refl _) (Nat.le_refl _) ?_
  refine X_iload_n (nx := 1) dJ0_checkIndex_df160_0 rfl rfl rfl ?_
  refine X_iload_n (nx := 2) dJ0_checkIndex_df160_1 rfl rfl rfl ?_
  refine X_gs_sio (nx := 5) dJ0_checkIndex_df160_2 rfl gs_RJ0_1053 ?_ ?_
  · skip
    first
      | refine Y_Si3 (nx := 8) dJ0_checkIndex_df160_5 rfl ml_RJ0_1059 kj_J3_checkIndex_8e157 ks_J3_checkIndex_8e157 (sp_J3_ci_n hx hy hk hn) (by decide) (by exact Nat.le_of_ble_eq_true rfl) ?_
      | refine Y_Si3 (nx := 8) dJ0_checkIndex_df160_5 rfl ml_RJ0_1059 kj_J3_checkIndex_8e157 ks_J3_checkIndex_8e157 (sp_J3_ci_r hx hy hk hn) (by decide) (by exact Nat.le_of_ble_eq_true rfl) ?_
    refine X_pop (nx := 9) dJ0_checkIndex_df160_8 rfl rfl ?_
    exact Y_retv dJ0_checkIndex_df160_9 rfl rfl
  · skip
    first
      | refine Y_Si3 (nx := 8) dJ0_checkIndex_df160_5 rfl ml_RJ0_1059 kj_J3_checkIndex_8e157 ks_J3_checkIndex_8e157 (sp_J3_ci_n hx hy hk hn) (by decide) (by exact Nat.le_of_ble_eq_true rfl) ?_
      | refine Y_Si3 (nx := 8) dJ0_checkIndex_df160_5 rfl ml_RJ0_1059 kj_J3_checkIndex_8e157 ks_J3_checkIndex_8e157 (sp_J3_ci_r hx hy hk hn) (by decide) (by exact Nat.le_of_ble_eq_true rfl) ?_
    refine X_pop (nx := 9) dJ0_checkIndex_df160_8 rfl rfl ?_
    exact Y_retv dJ0_checkIndex_df160_9 rfl rfl
theorem dJ1_charAt_3b067_0 : decode cJ1_charAt_3b067 0 = .ok (.iload_n 1, 1) := by decide +kernel
theorem dJ1_charAt_3b067_1 : decode cJ1_charAt_3b067 1 = .ok (.aload_n 0, 1) := by decide +kernel
theorem dJ1_charAt_3b067_2 : decode cJ1_charAt_3b067 2 = .ok (.arraylength, 1) := by decide +kernel
theorem dJ1_charAt_3b067_3 : decode cJ1_charAt_3b067 3 = .ok (.invokestatic 9, 3) := by decide +kernel
theorem dJ1_charAt_3b067_6 : decode cJ1_charAt_3b067 6 = .ok (.aload_n 0, 1) := by decide +kernel
theorem dJ1_charAt_3b067_7 : decode cJ1_charAt_3b067 7 = .ok (.iload_n 1, 1) := by decide +kernel
theorem dJ1_charAt_3b067_8 : decode cJ1_charAt_3b067 8 = .ok (.baload, 1) := by decide +kernel
theorem dJ1_charAt_3b067_9 : decode cJ1_charAt_3b067 9 = .ok (.sipush 255, 3) := by decide +kernel
theorem dJ1_charAt_3b067_12 : decode cJ1_charAt_3b067 12 = .ok (.iand, 1) := by decide +kernel
theorem dJ1_charAt_3b067_13 : decode cJ1_charAt_3b067 13 = .ok (.i2c, 1) := by decide +kernel
theorem dJ1_charAt_3b067_14 : decode cJ1_charAt_3b067 14 = .ok (.ireturn, 1) := by decide +kernel
theorem sp_J1_charAt_3b067 {i k : Nat} {x : Int32} {D : Mem} (hi : i < 4) (hx : x = nI k) (hk : k < (ordS i).length) : Ei 3 j_J1_charAt_3b067 [.ref (2020 + i), .int x] D (nI ((ordS i).getD k 0)) (D) := by
  refine E.start 0 (ls := [some (.ref (2020 + i)), some (.int x)]) (by decide +kernel) (Nat.le_of_ble_eq_true rfl) rfl (Nat.le_refl _) (Nat.le_refl _) ?_
  subst hx
  have hle := lenS_o i hi
  obtain ⟨g1, g2, g3⟩ := bytS_o i hi k (by omega)
  have hin : vp_in (nI k) (lenS.getD i 0) := vp_in_nI (by omega) (by omega)
  refine X_iload_n (nx := 1) dJ1_charAt_3b067_0 rfl rfl rfl ?_
  refine X_aload_n (nx := 2) dJ1_charAt_3b067_1 rfl rfl rfl ?_
  refine X_blen (nx := 3) dJ1_charAt_3b067_2 rfl hi ?_
  refine Y_Sv2 (nx := 6) dJ1_charAt_3b067_3 rfl ml_RJ1_9 kj_J0_checkIndex_df160 ks_J0_checkIndex_df160 (sp_J0_checkIndex_df160 rfl (congrArg nI hle.1) hk (by omega)) (by first | decide | omega) (by exact Nat.le_of_ble_eq_true rfl) ?_
  refine X_aload_n (nx := 7) dJ1_charAt_3b067_6 rfl rfl rfl ?_
  refine X_iload_n (nx := 8) dJ1_charAt_3b067_7 rfl rfl rfl ?_
  refine X_bald (nx := 9) dJ1_charAt_3b067_8 rfl hi hin ?_
  refine X_sipush (v := 255) (nx := 12) dJ1_charAt_3b067_9 rfl rfl ?_
  refine X_iand (nx := 13) dJ1_charAt_3b067_12 rfl ?_
  refine X_top ((congrArg (fun z => (bytS.getD i []).getD z 0 &&& 255) (nI_clamp (by omega))).trans g1) ?_
  refine X_i2c (nx := 14) dJ1_charAt_3b067_13 rfl rfl ?_
  refine X_top (g2) ?_
  exact Y_retN dJ1_charAt_3b067_14 ⟨_, rfl, (pk_charN (by omega)).1⟩ rfl rfl
theorem dJ0_charAt_5068e_0 : decode cJ0_charAt_5068e 0 = .ok (.aload_n 0, 1) := by decide +kernel
theorem dJ0_charAt_5068e_1 : decode cJ0_charAt_5068e 1 = .ok (.invokevirtual 492, 3) := by decide +kernel
theorem dJ0_charAt_5068e_4 : decode cJ0_charAt_5068e 4 = .ok (.ifCond .eq 12, 3) := by decide +kernel
theorem dJ0_charAt_5068e_7 : decode cJ0_charAt_5068e 7 = .ok (.aload_n 0, 1) := by decide +kernel
theorem dJ0_charAt_5068e_8 : decode cJ0_charAt_5068e 8 = .ok (.getfield 9, 3) := by decide +kernel
theorem dJ0_charAt_5068e_11 : decode cJ0_charAt_5068e 11 = .ok (.iload_n 1, 1) := by decide +kernel
theorem dJ0_charAt_5068e_12 : decode cJ0_charAt_5068e 12 = .ok (.invokestatic 495, 3) := by decide +kernel
theorem dJ0_charAt_5068e_15 : decode cJ0_charAt_5068e 15 = .ok (.ireturn, 1) := by decide +kernel
theorem dJ0_charAt_5068e_16 : decode cJ0_charAt_5068e 16 = .ok (.aload_n 0, 1) := by decide +kernel
theorem dJ0_charAt_5068e_17 : decode cJ0_charAt_5068e 17 = .ok (.getfield 9, 3) := by decide +kernel
theorem dJ0_charAt_5068e_20 : decode cJ0_charAt_5068e 20 = .ok (.iload_n 1, 1) := by decide +kernel
theorem dJ0_charAt_5068e_21 : decode cJ0_charAt_5068e 21 = .ok (.invokestatic 498, 3) := by decide +kernel
theorem dJ0_charAt_5068e_24 : decode cJ0_charAt_5068e 24 = .ok (.ireturn, 1) := by decide +kernel
theorem sp_J0_charAt_5068e {i k : Nat} {x : Int32} {D : Mem} (hi : i < 4) (hx : x = nI k) (hk : k < (ordS i).length) : Ei 4 j_J0_charAt_5068e [.ref (2010 + i), .int x] D (nI ((ordS i).getD k 0)) (D) := by
  have hle := lenS_o i hi
  obtain ⟨g1, g2, g3⟩ := bytS_o i hi k (by omega)
  refine E.start 0 (ls := [some (.ref (2010 + i)), some (.int x)]) (by decide +kernel) (Nat.le_of_ble_eq_true rfl) rfl (Nat.le_refl _) (Nat.le_refl _) ?_
  refine X_aload_n (nx := 1) dJ0_charAt_5068e_0 rfl rfl rfl ?_
  refine Y_Ti0 (nx := 4) dJ0_charAt_5068e_1 rfl ml_RJ0_492 kj_J0_isLatin1_aae02 kv_J0_isLatin1_aae02 (sp_J0_isLatin1_aae02 hi) (by first | assumption | rfl | decide | omega) rfl (by first | decide | omega) (by exact Nat.le_of_ble_eq_true rfl) ?_
  refine X_if_eq (tgt := 16) (nx := 7) dJ0_charAt_5068e_4 rfl rfl (fun h4 => ?_) (fun h4 => ?_)
  · exact absurd h4 (by decide)
  · skip
    refine X_aload_n (nx := 8) dJ0_charAt_5068e_7 rfl rfl rfl ?_
    refine X_strV (nx := 11) dJ0_charAt_5068e_8 rfl (by assumption) gs_RJ0_9 ?_
    refine X_iload_n (nx := 12) dJ0_charAt_5068e_11 rfl rfl rfl ?_
    refine Y_Si2 (nx := 15) dJ0_charAt_5068e_12 rfl ml_RJ0_495 kj_J1_charAt_3b067 ks_J1_charAt_3b067 (sp_J1_charAt_3b067 hi hx hk) (by first | decide | omega) (by exact Nat.le_of_ble_eq_true rfl) ?_
    exact Y_retN dJ0_charAt_5068e_15 ⟨_, rfl, (pk_charN (by omega)).1⟩ rfl rfl
theorem dX6_orderOf_0 : decode cX6_orderOf 0 = .ok (.iload_n 0, 1) := by decide +kernel
theorem dX6_orderOf_1 : decode cX6_orderOf 1 = .ok (.tableswitch 36 1 3 #[27, 30, 33], 27) := by decide +kernel
theorem dX6_orderOf_28 : decode cX6_orderOf 28 = .ok (.ldc 99, 2) := by decide +kernel
theorem dX6_orderOf_30 : decode cX6_orderOf 30 = .ok (.areturn, 1) := by decide +kernel
theorem dX6_orderOf_31 : decode cX6_orderOf 31 = .ok (.ldc 101, 2) := by decide +kernel
theorem dX6_orderOf_33 : decode cX6_orderOf 33 = .ok (.areturn, 1) := by decide +kernel
theorem dX6_orderOf_34 : decode cX6_orderOf 34 = .ok (.ldc 103, 2) := by decide +kernel
theorem dX6_orderOf_36 : decode cX6_orderOf 36 = .ok (.areturn, 1) := by decide +kernel
theorem dX6_orderOf_37 : decode cX6_orderOf 37 = .ok (.ldc 105, 2) := by decide +kernel
theorem dX6_orderOf_39 : decode cX6_orderOf 39 = .ok (.areturn, 1) := by decide +kernel
theorem sp_X6_orderOf {k : Nat} {x : Int32} {D : Mem} (hx : x = nI k) (hk : k < 6) : Er 1 j_X6_orderOf [.int x] D (2010 + oi k) (D) := by
  refine E.start 0 (ls := [some (.int x)]) (by decide +kernel) (Nat.le_of_ble_eq_true rfl) rfl (Nat.le_refl _) (Nat.le_refl _) ?_
  subst hx
  refine X_iload_n (nx := 1) dX6_orderOf_0 rfl rfl rfl ?_
  obtain rfl | rfl | rfl | rfl | rfl | rfl : k = 1 ∨ k = 2 ∨ k = 3 ∨ k = 0 ∨ k = 4 ∨ k = 5 := by omega
  · skip
    refine X_top (y := 1) (rfl) ?_
    refine X_tableIn (tgt := 28) (off := 27) dX6_orderOf_1 (by decide) (by decide) (by decide) rfl ?_
    refine X_ldcS (i := 0) (nx := 30) dX6_orderOf_28 rfl (by decide) rfl rfl ?_
    exact Y_reta dX6_orderOf_30 ⟨_, rfl⟩ rfl rfl
  · skip
    refine X_top (y := 2) (rfl) ?_
    refine X_tableIn (tgt := 31) (off := 30) dX6_orderOf_1 (by decide) (by decide) (by decide) rfl ?_
    refine X_ldcS (i := 1) (nx := 33) dX6_orderOf_31 rfl (by decide) rfl rfl ?_
    exact Y_reta dX6_orderOf_33 ⟨_, rfl⟩ rfl rfl
  · skip
    refine X_top (y := 3) (rfl) ?_
    refine X_tableIn (tgt := 34) (off := 33) dX6_orderOf_1 (by decide) (by decide) (by decide) rfl ?_
    refine X_ldcS (i := 2) (nx := 36) dX6_orderOf_34 rfl (by decide) rfl rfl ?_
    exact Y_reta dX6_orderOf_36 ⟨_, rfl⟩ rfl rfl
  · skip
    refine X_tableOut (tgt := 37) dX6_orderOf_1 (by decide) rfl ?_
    refine X_ldcS (i := 3) (nx := 39) dX6_orderOf_37 rfl (by decide) rfl rfl ?_
    exact Y_reta dX6_orderOf_39 ⟨_, rfl⟩ rfl rfl
  · skip
    refine X_tableOut (tgt := 37) dX6_orderOf_1 (by decide) rfl ?_
    refine X_ldcS (i := 3) (nx := 39) dX6_orderOf_37 rfl (by decide) rfl rfl ?_
    exact Y_reta dX6_orderOf_39 ⟨_, rfl⟩ rfl rfl
  · skip
    refine X_tableOut (tgt := 37) dX6_orderOf_1 (by decide) rfl ?_
    refine X_ldcS (i := 3) (nx := 39) dX6_orderOf_37 rfl (by decide) rfl rfl ?_
    exact Y_reta dX6_orderOf_39 ⟨_, rfl⟩ rfl rfl
/-- which edge a step takes at a letter -/
def edg (s l : Nat) : Option Nat := if s = 76 then some l else if s = 67 then some (if l < 2 then 4 else 5) else if s = 65 then some 6 else none
def nxI (nl : List Nd) (PS : Nd → Nat → Bool) (q : Nd) (w : Nat) (L : List Nat) (s a : Nat) : Option Nat := if L.length ≤ a then none else match edg s (L.getD a 0) with
  | none => none
  | some e => nbh nl PS q e w
theorem edg_C1 {l : Nat} (h : l < 2) : edg 67 l = some 4 := by unfold edg; rw [if_neg (by decide), if_pos rfl, if_pos h]
theorem edg_C2 {l : Nat} (h : ¬ l < 2) : edg 67 l = some 5 := by unfold edg; rw [if_neg (by decide), if_pos rfl, if_neg h]
theorem nxI_e {nl : List Nd} {PS : Nd → Nat → Bool} {q : Nd} {w s a e : Nat} {L : List Nat} (h : a < L.length) (he : edg s (L.getD a 0) = some e) : nxI nl PS q w L s a = nbh nl PS q e w := by
  unfold nxI; rw [if_neg (by omega), he]
theorem nxI_n {nl : List Nd} {PS : Nd → Nat → Bool} {q : Nd} {w s a : Nat} {L : List Nat} (he : edg s (L.getD a 0) = none) : nxI nl PS q w L s a = none := by
  unfold nxI; split <;> (try rw [he]) <;> rfl
theorem nxI_o {nl : List Nd} {PS : Nd → Nat → Bool} {q : Nd} {w s a : Nat} {L : List Nat} (h : ¬ a < L.length) : nxI nl PS q w L s a = none := by
  unfold nxI; rw [if_pos (by omega)]
/-- the end by a step -/
def ebF (RS EN : Nd → Nat → Bool) (SV : Nat → Nat → Bool) (q : Nd) (w v : Nat) (L : List Nat) (s a : Nat) : Option Nat := fst_ (fun r => (if s = 82 then RS q r else if s = 69 ∧ a = L.length then EN q r else false) && (w.testBit r && SV v r)) 0 10
def ebD (D : Mem) (r : Option Nat) (ms t : Nat) : Mem := match r with
  | none => D
  | some _ => up2 (up2 D 79 7 (nI ms)) 79 8 (nI t)
theorem bits_0 : mkn (fun _ => false) 10 = 0 := by decide
theorem and3m {p g : Nat → Bool} {w : Nat} (r : Nat) (hr : r < 10) : (mkn p 10 &&& w &&& mkn g 10).testBit r = (p r && (w.testBit r && g r)) := by
  rw [Nat.testBit_and, Nat.testBit_and, mkn_tb, mkn_tb, decide_eq_true hr, Bool.true_and, Bool.true_and, Bool.and_assoc]
theorem dX6_nextBy_0 : decode cX6_nextBy 0 = .ok (.iload_n 3, 1) := by decide +kernel
theorem dX6_nextBy_1 : decode cX6_nextBy 1 = .ok (.aload_n 0, 1) := by decide +kernel
theorem dX6_nextBy_2 : decode cX6_nextBy 2 = .ok (.getfield 21, 3) := by decide +kernel
theorem dX6_nextBy_5 : decode cX6_nextBy 5 = .ok (.getfield 70, 3) := by decide +kernel
theorem dX6_nextBy_8 : decode cX6_nextBy 8 = .ok (.if_icmp .lt 6, 3) := by decide +kernel
theorem dX6_nextBy_11 : decode cX6_nextBy 11 = .ok (.bipush (-9), 2) := by decide +kernel
theorem dX6_nextBy_13 : decode cX6_nextBy 13 = .ok (.ireturn, 1) := by decide +kernel
theorem dX6_nextBy_14 : decode cX6_nextBy 14 = .ok (.aload_n 0, 1) := by decide +kernel
theorem dX6_nextBy_15 : decode cX6_nextBy 15 = .ok (.getfield 21, 3) := by decide +kernel
theorem dX6_nextBy_18 : decode cX6_nextBy 18 = .ok (.iload_n 3, 1) := by decide +kernel
theorem dX6_nextBy_19 : decode cX6_nextBy 19 = .ok (.invokevirtual 107, 3) := by decide +kernel
theorem dX6_nextBy_22 : decode cX6_nextBy 22 = .ok (.istore 4, 2) := by decide +kernel
theorem dX6_nextBy_24 : decode cX6_nextBy 24 = .ok (.iload_n 1, 1) := by decide +kernel
theorem dX6_nextBy_25 : decode cX6_nextBy 25 = .ok (.lookupswitch 97 #[(65, 82), (67, 50), (76, 35)], 35) := by decide +kernel
theorem dX6_nextBy_60 : decode cX6_nextBy 60 = .ok (.aload_n 0, 1) := by decide +kernel
theorem dX6_nextBy_61 : decode cX6_nextBy 61 = .ok (.getfield 12, 3) := by decide +kernel
theorem dX6_nextBy_64 : decode cX6_nextBy 64 = .ok (.iload_n 2, 1) := by decide +kernel
theorem dX6_nextBy_65 : decode cX6_nextBy 65 = .ok (.iload 4, 2) := by decide +kernel
theorem dX6_nextBy_67 : decode cX6_nextBy 67 = .ok (.aload_n 0, 1) := by decide +kernel
theorem dX6_nextBy_68 : decode cX6_nextBy 68 = .ok (.getfield 40, 3) := by decide +kernel
theorem dX6_nextBy_71 : decode cX6_nextBy 71 = .ok (.invokevirtual 111, 3) := by decide +kernel
theorem dX6_nextBy_74 : decode cX6_nextBy 74 = .ok (.ireturn, 1) := by decide +kernel
theorem dX6_nextBy_75 : decode cX6_nextBy 75 = .ok (.bipush 10, 2) := by decide +kernel
theorem dX6_nextBy_77 : decode cX6_nextBy 77 = .ok (.iload 4, 2) := by decide +kernel
theorem dX6_nextBy_79 : decode cX6_nextBy 79 = .ok (.invokestatic 114, 3) := by decide +kernel
theorem dX6_nextBy_82 : decode cX6_nextBy 82 = .ok (.ifCond .eq 7, 3) := by decide +kernel
theorem dX6_nextBy_85 : decode cX6_nextBy 85 = .ok (.iconst 4, 1) := by decide +kernel
theorem dX6_nextBy_86 : decode cX6_nextBy 86 = .ok (.goto 4, 3) := by decide +kernel
theorem dX6_nextBy_89 : decode cX6_nextBy 89 = .ok (.iconst 5, 1) := by decide +kernel
theorem dX6_nextBy_90 : decode cX6_nextBy 90 = .ok (.istore 5, 2) := by decide +kernel
theorem dX6_nextBy_92 : decode cX6_nextBy 92 = .ok (.aload_n 0, 1) := by decide +kernel
theorem dX6_nextBy_93 : decode cX6_nextBy 93 = .ok (.getfield 12, 3) := by decide +kernel
theorem dX6_nextBy_96 : decode cX6_nextBy 96 = .ok (.iload_n 2, 1) := by decide +kernel
theorem dX6_nextBy_97 : decode cX6_nextBy 97 = .ok (.iload 5, 2) := by decide +kernel
theorem dX6_nextBy_99 : decode cX6_nextBy 99 = .ok (.aload_n 0, 1) := by decide +kernel
theorem dX6_nextBy_100 : decode cX6_nextBy 100 = .ok (.getfield 40, 3) := by decide +kernel
theorem dX6_nextBy_103 : decode cX6_nextBy 103 = .ok (.invokevirtual 111, 3) := by decide +kernel
theorem dX6_nextBy_106 : decode cX6_nextBy 106 = .ok (.ireturn, 1) := by decide +kernel
theorem dX6_nextBy_107 : decode cX6_nextBy 107 = .ok (.aload_n 0, 1) := by decide +kernel
theorem dX6_nextBy_108 : decode cX6_nextBy 108 = .ok (.getfield 12, 3) := by decide +kernel
theorem dX6_nextBy_111 : decode cX6_nextBy 111 = .ok (.iload_n 2, 1) := by decide +kernel
theorem dX6_nextBy_112 : decode cX6_nextBy 112 = .ok (.bipush 6, 2) := by decide +kernel
theorem dX6_nextBy_114 : decode cX6_nextBy 114 = .ok (.aload_n 0, 1) := by decide +kernel
theorem dX6_nextBy_115 : decode cX6_nextBy 115 = .ok (.getfield 40, 3) := by decide +kernel
theorem dX6_nextBy_118 : decode cX6_nextBy 118 = .ok (.invokevirtual 111, 3) := by decide +kernel
theorem dX6_nextBy_121 : decode cX6_nextBy 121 = .ok (.ireturn, 1) := by decide +kernel
theorem dX6_nextBy_122 : decode cX6_nextBy 122 = .ok (.bipush (-9), 2) := by decide +kernel
theorem dX6_nextBy_124 : decode cX6_nextBy 124 = .ok (.ireturn, 1) := by decide +kernel
theorem sp_X6_nextBy {B : Bk} {nl : List Nd} {PS EN RS MN : Nd → Nat → Bool} {SV : Nat → Nat → Bool} {MO : Nat → Bool} {L : List Nat} {w j s a : Nat} {x y z : Int32} {D : Mem} (h : TE D B nl PS EN RS MN SV MO) (hL : LET D 92 L) (hw : D 79 5 = nI w) (hw2 : w < 1024) (hj : j < nl.length) (hx : x = nI s) (hs : s = 69 ∨ s = 76 ∨ s = 65 ∨ s = 67 ∨ s = 82 ∨ s = 77) (hy : y = nI j) (hz : z = nI a) (ha : a ≤ L.length) : Ei 3 j_X6_nextBy [.ref 79, .int x, .int y, .int z] D (opI (nxI nl PS (ng nl j) w L s a)) (D) := by
  refine E.start 2 (ls := [some (.ref 79), some (.int x), some (.int y), some (.int z), none, none]) (by decide +kernel) (Nat.le_of_ble_eq_true rfl) rfl (Nat.le_refl _) (Nat.le_refl _) ?_
  subst hx; subst hy; subst hz
  have hp : isPa 92 := Or.inl rfl
  have hb := hL.1
  refine X_iload_n (nx := 1) dX6_nextBy_0 rfl rfl rfl ?_
  refine X_aload_n (nx := 2) dX6_nextBy_1 rfl rfl rfl ?_
  refine M_getP (nx := 5) dX6_nextBy_2 rfl fl_RX6_21 rfl (by first | assumption | rfl | decide | omega) (by first | assumption | rfl | decide | omega) (by first | assumption | rfl | decide | omega) ?_
  refine M_getI (nx := 8) dX6_nextBy_5 rfl fl_RX6_70 rfl (by first | assumption | rfl | decide | omega) (by first | assumption | rfl | decide | omega) ?_
  refine X_top (hL.2.1) ?_
  refine X_icmp_lt (tgt := 14) (nx := 11) dX6_nextBy_8 rfl rfl (fun h8 => ?_) (fun h8 => ?_)
  · skip
    rw [nI_ltI (by omega) (by omega)] at h8
    have hl4 := hL.2.2.2 _ (getD_in h8)
    refine X_aload_n (nx := 15) dX6_nextBy_14 rfl rfl rfl ?_
    refine M_getP (nx := 18) dX6_nextBy_15 rfl fl_RX6_21 rfl (by first | assumption | rfl | decide | omega) (by first | assumption | rfl | decide | omega) (by first | assumption | rfl | decide | omega) ?_
    refine X_iload_n (nx := 19) dX6_nextBy_18 rfl rfl rfl ?_
    refine Y_Vi1 (nx := 22) dX6_nextBy_19 rfl ml_RX6_107 kj_X1_at kv_X1_at (sp_X1_at hp hL rfl h8) (by first | assumption | rfl | decide | omega) (by first | assumption | rfl | decide | omega) (by decide) rfl (by first | decide | omega) (by exact Nat.le_of_ble_eq_true rfl) ?_
    refine X_istore (i := 4) (nx := 24) dX6_nextBy_22 rfl (by decide) rfl (st_s (st_s (st_s (st_s (st_0))))) ?_
    refine X_iload_n (nx := 25) dX6_nextBy_24 rfl rfl rfl ?_
    rcases hs with rfl | rfl | rfl | rfl | rfl | rfl
    · skip
      refine X_top (y := 69) (rfl) ?_
      refine X_lookup (tgt := 122) (off := 97) dX6_nextBy_25 (by decide) (by decide) rfl ?_
      refine X_bipush (v := -9) (nx := 124) dX6_nextBy_122 rfl rfl ?_
      exact Y_reti dX6_nextBy_124 (Or.inl rfl) (by first | (rw [nxI_o h8]; rfl) | (rw [nxI_e h8 (edg_C1 h82)]; done) | (rw [nxI_e h8 (edg_C2 h82)]; done) | (rw [nxI_e h8 (show edg 76 _ = some _ from rfl)]; done) | (rw [nxI_e h8 (show edg 65 _ = some _ from rfl)]; done) | (rw [nxI_n rfl]; rfl)) rfl
    · skip
      refine X_top (y := 76) (rfl) ?_
      refine X_lookup (tgt := 60) (off := 35) dX6_nextBy_25 (by decide) (by decide) rfl ?_
      refine X_aload_n (nx := 61) dX6_nextBy_60 rfl rfl rfl ?_
      refine M_getP (nx := 64) dX6_nextBy_61 rfl fl_RX6_12 rfl (by first | assumption | rfl | decide | omega) (by first | assumption | rfl | decide | omega) (by first | assumption | rfl | decide | omega) ?_
      refine X_iload_n (nx := 65) dX6_nextBy_64 rfl rfl rfl ?_
      refine X_iload (nx := 67) dX6_nextBy_65 rfl rfl ?_
      refine X_aload_n (nx := 68) dX6_nextBy_67 rfl rfl rfl ?_
      refine M_getI (nx := 71) dX6_nextBy_68 rfl fl_RX6_40 rfl (by first | assumption | rfl | decide | omega) (by first | assumption | rfl | decide | omega) ?_
      refine X_top (hw) ?_
      refine Y_Vi3 (nx := 74) dX6_nextBy_71 rfl ml_RX6_111 kj_X5_nodeBehind kv_X5_nodeBehind (sp_X5_nodeBehind h rfl hj rfl (by omega) rfl hw2) (by first | assumption | rfl | decide | omega) (by first | assumption | rfl | decide | omega) (by decide) rfl (by first | decide | omega) (by exact Nat.le_of_ble_eq_true rfl) ?_
      exact Y_reti dX6_nextBy_74 (Or.inl rfl) (by first | (rw [nxI_o h8]; rfl) | (rw [nxI_e h8 (edg_C1 h82)]; done) | (rw [nxI_e h8 (edg_C2 h82)]; done) | (rw [nxI_e h8 (show edg 76 _ = some _ from rfl)]; done) | (rw [nxI_e h8 (show edg 65 _ = some _ from rfl)]; done) | (rw [nxI_n rfl]; rfl)) rfl
    · skip
      refine X_top (y := 65) (rfl) ?_
      refine X_lookup (tgt := 107) (off := 82) dX6_nextBy_25 (by decide) (by decide) rfl ?_
      refine X_aload_n (nx := 108) dX6_nextBy_107 rfl rfl rfl ?_
      refine M_getP (nx := 111) dX6_nextBy_108 rfl fl_RX6_12 rfl (by first | assumption | rfl | decide | omega) (by first | assumption | rfl | decide | omega) (by first | assumption | rfl | decide | omega) ?_
      refine X_iload_n (nx := 112) dX6_nextBy_111 rfl rfl rfl ?_
      refine X_bipush (v := nI 6) (nx := 114) dX6_nextBy_112 rfl rfl ?_
      refine X_aload_n (nx := 115) dX6_nextBy_114 rfl rfl rfl ?_
      refine M_getI (nx := 118) dX6_nextBy_115 rfl fl_RX6_40 rfl (by first | assumption | rfl | decide | omega) (by first | assumption | rfl | decide | omega) ?_
      refine X_top (hw) ?_
      refine Y_Vi3 (nx := 121) dX6_nextBy_118 rfl ml_RX6_111 kj_X5_nodeBehind kv_X5_nodeBehind (sp_X5_nodeBehind h rfl hj rfl (by omega) rfl hw2) (by first | assumption | rfl | decide | omega) (by first | assumption | rfl | decide | omega) (by decide) rfl (by first | decide | omega) (by exact Nat.le_of_ble_eq_true rfl) ?_
      exact Y_reti dX6_nextBy_121 (Or.inl rfl) (by first | (rw [nxI_o h8]; rfl) | (rw [nxI_e h8 (edg_C1 h82)]; done) | (rw [nxI_e h8 (edg_C2 h82)]; done) | (rw [nxI_e h8 (show edg 76 _ = some _ from rfl)]; done) | (rw [nxI_e h8 (show edg 65 _ = some _ from rfl)]; done) | (rw [nxI_n rfl]; rfl)) rfl
    · skip
      refine X_top (y := 67) (rfl) ?_
      refine X_lookup (tgt := 75) (off := 50) dX6_nextBy_25 (by decide) (by decide) rfl ?_
      refine X_bipush (v := nI 10) (nx := 77) dX6_nextBy_75 rfl rfl ?_
      refine X_iload (nx := 79) dX6_nextBy_77 rfl rfl ?_
      refine Y_Si2 (nx := 82) dX6_nextBy_79 rfl ml_RX6_114 kj_X7_fits ks_X7_fits (sp_X7_fits (s := 10) rfl (Or.inr (Or.inl (by omega))) rfl hl4) (by first | decide | omega) (by exact Nat.le_of_ble_eq_true rfl) ?_
      refine X_if_eq (tgt := 89) (nx := 85) dX6_nextBy_82 rfl rfl (fun h82 => ?_) (fun h82 => ?_)
      · skip
        rw [fitT_2 (by omega), b2i_f] at h82
        have h82 := of_decide_eq_false h82
        refine X_iconst (v := nI 5) (nx := 90) dX6_nextBy_89 rfl rfl ?_
        refine X_istore (i := 5) (nx := 92) dX6_nextBy_90 rfl (by decide) rfl (st_s (st_s (st_s (st_s (st_s (st_0)))))) ?_
        refine X_aload_n (nx := 93) dX6_nextBy_92 rfl rfl rfl ?_
        refine M_getP (nx := 96) dX6_nextBy_93 rfl fl_RX6_12 rfl (by first | assumption | rfl | decide | omega) (by first | assumption | rfl | decide | omega) (by first | assumption | rfl | decide | omega) ?_
        refine X_iload_n (nx := 97) dX6_nextBy_96 rfl rfl rfl ?_
        refine X_iload (nx := 99) dX6_nextBy_97 rfl rfl ?_
        refine X_aload_n (nx := 100) dX6_nextBy_99 rfl rfl rfl ?_
        refine M_getI (nx := 103) dX6_nextBy_100 rfl fl_RX6_40 rfl (by first | assumption | rfl | decide | omega) (by first | assumption | rfl | decide | omega) ?_
        refine X_top (hw) ?_
        refine Y_Vi3 (nx := 106) dX6_nextBy_103 rfl ml_RX6_111 kj_X5_nodeBehind kv_X5_nodeBehind (sp_X5_nodeBehind h rfl hj rfl (by omega) rfl hw2) (by first | assumption | rfl | decide | omega) (by first | assumption | rfl | decide | omega) (by decide) rfl (by first | decide | omega) (by exact Nat.le_of_ble_eq_true rfl) ?_
        exact Y_reti dX6_nextBy_106 (Or.inl rfl) (by first | (rw [nxI_o h8]; rfl) | (rw [nxI_e h8 (edg_C1 h82)]; done) | (rw [nxI_e h8 (edg_C2 h82)]; done) | (rw [nxI_e h8 (show edg 76 _ = some _ from rfl)]; done) | (rw [nxI_e h8 (show edg 65 _ = some _ from rfl)]; done) | (rw [nxI_n rfl]; rfl)) rfl
      · skip
        rw [fitT_2 (by omega), b2i_t] at h82
        have h82 := of_decide_eq_true h82
        refine X_iconst (v := nI 4) (nx := 86) dX6_nextBy_85 rfl rfl ?_
        refine X_goto (tgt := 90) dX6_nextBy_86 rfl ?_
        refine X_istore (i := 5) (nx := 92) dX6_nextBy_90 rfl (by decide) rfl (st_s (st_s (st_s (st_s (st_s (st_0)))))) ?_
        refine X_aload_n (nx := 93) dX6_nextBy_92 rfl rfl rfl ?_
        refine M_getP (nx := 96) dX6_nextBy_93 rfl fl_RX6_12 rfl (by first | assumption | rfl | decide | omega) (by first | assumption | rfl | decide | omega) (by first | assumption | rfl | decide | omega) ?_
        refine X_iload_n (nx := 97) dX6_nextBy_96 rfl rfl rfl ?_
        refine X_iload (nx := 99) dX6_nextBy_97 rfl rfl ?_
        refine X_aload_n (nx := 100) dX6_nextBy_99 rfl rfl rfl ?_
        refine M_getI (nx := 103) dX6_nextBy_100 rfl fl_RX6_40 rfl (by first | assumption | rfl | decide | omega) (by first | assumption | rfl | decide | omega) ?_
        refine X_top (hw) ?_
        refine Y_Vi3 (nx := 106) dX6_nextBy_103 rfl ml_RX6_111 kj_X5_nodeBehind kv_X5_nodeBehind (sp_X5_nodeBehind h rfl hj rfl (by omega) rfl hw2) (by first | assumption | rfl | decide | omega) (by first | assumption | rfl | decide | omega) (by decide) rfl (by first | decide | omega) (by exact Nat.le_of_ble_eq_true rfl) ?_
        exact Y_reti dX6_nextBy_106 (Or.inl rfl) (by first | (rw [nxI_o h8]; rfl) | (rw [nxI_e h8 (edg_C1 h82)]; done) | (rw [nxI_e h8 (edg_C2 h82)]; done) | (rw [nxI_e h8 (show edg 76 _ = some _ from rfl)]; done) | (rw [nxI_e h8 (show edg 65 _ = some _ from rfl)]; done) | (rw [nxI_n rfl]; rfl)) rfl
    · skip
      refine X_top (y := 82) (rfl) ?_
      refine X_lookup (tgt := 122) (off := 97) dX6_nextBy_25 (by decide) (by decide) rfl ?_
      refine X_bipush (v := -9) (nx := 124) dX6_nextBy_122 rfl rfl ?_
      exact Y_reti dX6_nextBy_124 (Or.inl rfl) (by first | (rw [nxI_o h8]; rfl) | (rw [nxI_e h8 (edg_C1 h82)]; done) | (rw [nxI_e h8 (edg_C2 h82)]; done) | (rw [nxI_e h8 (show edg 76 _ = some _ from rfl)]; done) | (rw [nxI_e h8 (show edg 65 _ = some _ from rfl)]; done) | (rw [nxI_n rfl]; rfl)) rfl
    · skip
      refine X_top (y := 77) (rfl) ?_
      refine X_lookup (tgt := 122) (off := 97) dX6_nextBy_25 (by decide) (by decide) rfl ?_
      refine X_bipush (v := -9) (nx := 124) dX6_nextBy_122 rfl rfl ?_
      exact Y_reti dX6_nextBy_124 (Or.inl rfl) (by first | (rw [nxI_o h8]; rfl) | (rw [nxI_e h8 (edg_C1 h82)]; done) | (rw [nxI_e h8 (edg_C2 h82)]; done) | (rw [nxI_e h8 (show edg 76 _ = some _ from rfl)]; done) | (rw [nxI_e h8 (show edg 65 _ = some _ from rfl)]; done) | (rw [nxI_n rfl]; rfl)) rfl
  · skip
    rw [nI_ltI (by omega) (by omega)] at h8
    refine X_bipush (v := -9) (nx := 13) dX6_nextBy_11 rfl rfl ?_
    exact Y_reti dX6_nextBy_13 (Or.inl rfl) (by first | (rw [nxI_o h8]; rfl) | (rw [nxI_e h8 (edg_C1 h82)]; done) | (rw [nxI_e h8 (edg_C2 h82)]; done) | (rw [nxI_e h8 (show edg 76 _ = some _ from rfl)]; done) | (rw [nxI_e h8 (show edg 65 _ = some _ from rfl)]; done) | (rw [nxI_n rfl]; rfl)) rfl
