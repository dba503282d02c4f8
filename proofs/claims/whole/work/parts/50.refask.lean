theorem dX8_match_0 : decode cX8_match 0 = .ok (.aload_n 0, 1) := by decide +kernel
theorem dX8_match_1 : decode cX8_match 1 = .ok (.iload_n 1, 1) := by decide +kernel
theorem dX8_match_2 : decode cX8_match 2 = .ok (.iload_n 2, 1) := by decide +kernel
theorem dX8_match_3 : decode cX8_match 3 = .ok (.invokevirtual 311, 3) := by decide +kernel
theorem dX8_match_6 : decode cX8_match 6 = .ok (.istore_n 3, 1) := by decide +kernel
theorem dX8_match_7 : decode cX8_match 7 = .ok (.iload_n 3, 1) := by decide +kernel
theorem dX8_match_8 : decode cX8_match 8 = .ok (.ifCond .eq 11, 3) := by decide +kernel
theorem dX8_match_11 : decode cX8_match 11 = .ok (.aload_n 0, 1) := by decide +kernel
theorem dX8_match_12 : decode cX8_match 12 = .ok (.iload_n 3, 1) := by decide +kernel
theorem dX8_match_13 : decode cX8_match 13 = .ok (.invokevirtual 211, 3) := by decide +kernel
theorem dX8_match_16 : decode cX8_match 16 = .ok (.goto 9, 3) := by decide +kernel
theorem dX8_match_19 : decode cX8_match 19 = .ok (.aload_n 0, 1) := by decide +kernel
theorem dX8_match_20 : decode cX8_match 20 = .ok (.iload_n 1, 1) := by decide +kernel
theorem dX8_match_21 : decode cX8_match 21 = .ok (.iload_n 2, 1) := by decide +kernel
theorem dX8_match_22 : decode cX8_match 22 = .ok (.invokevirtual 314, 3) := by decide +kernel
theorem dX8_match_25 : decode cX8_match 25 = .ok (.ireturn, 1) := by decide +kernel
theorem sp_X8_match {x y : Int32} {S : St} {D : Mem} (h : INV2 D S) (hw : WF S) : Rix 6 j_X8_match [.ref 104, .int x, .int y] D (fun u D' => CK2 D (m_match S x y) u D') := by
  refine E.start 1 (ls := [some (.ref 104), some (.int x), some (.int y), none]) (by decide +kernel) (Nat.le_of_ble_eq_true rfl) rfl (Nat.le_refl _) (Nat.le_refl _) ?_
  have hcm := hw.1.2.1
  have hB2 := h.1.2.1
  refine X_aload_n (nx := 1) dX8_match_0 rfl rfl rfl ?_
  refine X_iload_n (nx := 2) dX8_match_1 rfl rfl rfl ?_
  refine X_iload_n (nx := 3) dX8_match_2 rfl rfl rfl ?_
  refine Y_Vi2 (nx := 6) dX8_match_3 rfl ml_RX8_311 kj_X8_notAsked kv_X8_notAsked (sp_X8_notAsked) (by first | assumption | rfl | decide | omega) (by first | assumption | rfl | decide | omega) (by decide) rfl (by first | decide | omega) (by exact Nat.le_of_ble_eq_true rfl) ?_
  by_cases q1 : ¬ decide (0 ≤ x ∧ x < 341) = true
  · rw [if_pos q1]
    refine X_istore_n (i := 3) (nx := 7) dX8_match_6 rfl rfl (by decide) rfl (st_s (st_s (st_s (st_0)))) ?_
    refine X_iload_n (nx := 8) dX8_match_7 rfl rfl rfl ?_
    refine X_if_eq (tgt := 19) (nx := 11) dX8_match_8 rfl rfl (fun h8 => ?_) (fun h8 => ?_)
    · exact absurd h8 (by decide)
    · skip
      refine X_aload_n (nx := 12) dX8_match_11 rfl rfl rfl ?_
      refine X_iload_n (nx := 13) dX8_match_12 rfl rfl rfl ?_
      refine Y_Vi1 (nx := 16) dX8_match_13 rfl ml_RX8_211 kj_X8_no kv_X8_no (by first | exact sp_X8_no (k := 1) rfl (by omega) (by omega) | exact sp_X8_no (k := 2) rfl (by omega) (by omega)) (by first | assumption | rfl | decide | omega) (by first | assumption | rfl | decide | omega) (by decide) rfl (by first | decide | omega) (by exact Nat.le_of_ble_eq_true rfl) ?_
      refine X_goto (tgt := 25) dX8_match_16 rfl ?_
      exact Z_reti dX8_match_25 (Or.inl rfl) (by unfold m_match; first | (rw [if_neg q1]; exact ck2_no (k := 1) h Fr.rf (by omega) (by omega)) | (rw [if_pos c1, if_neg q2]; exact ck2_no (k := 2) h Fr.rf (by omega) (by omega)) | (rw [if_pos c1, if_pos c2, kp, kv]; exact ck2_s g22.2.2.1 (br_inv h hw g22).1 (br_inv h hw g22).2))
  · rw [if_neg q1]
    have c1 := Decidable.not_not.mp q1
    by_cases q2 : ¬ decide (0 ≤ y ∧ y < 4) = true
    · rw [if_pos q2]
      refine X_istore_n (i := 3) (nx := 7) dX8_match_6 rfl rfl (by decide) rfl (st_s (st_s (st_s (st_0)))) ?_
      refine X_iload_n (nx := 8) dX8_match_7 rfl rfl rfl ?_
      refine X_if_eq (tgt := 19) (nx := 11) dX8_match_8 rfl rfl (fun h8 => ?_) (fun h8 => ?_)
      · exact absurd h8 (by decide)
      · skip
        refine X_aload_n (nx := 12) dX8_match_11 rfl rfl rfl ?_
        refine X_iload_n (nx := 13) dX8_match_12 rfl rfl rfl ?_
        refine Y_Vi1 (nx := 16) dX8_match_13 rfl ml_RX8_211 kj_X8_no kv_X8_no (by first | exact sp_X8_no (k := 1) rfl (by omega) (by omega) | exact sp_X8_no (k := 2) rfl (by omega) (by omega)) (by first | assumption | rfl | decide | omega) (by first | assumption | rfl | decide | omega) (by decide) rfl (by first | decide | omega) (by exact Nat.le_of_ble_eq_true rfl) ?_
        refine X_goto (tgt := 25) dX8_match_16 rfl ?_
        exact Z_reti dX8_match_25 (Or.inl rfl) (by unfold m_match; first | (rw [if_neg q1]; exact ck2_no (k := 1) h Fr.rf (by omega) (by omega)) | (rw [if_pos c1, if_neg q2]; exact ck2_no (k := 2) h Fr.rf (by omega) (by omega)) | (rw [if_pos c1, if_pos c2, kp, kv]; exact ck2_s g22.2.2.1 (br_inv h hw g22).1 (br_inv h hw g22).2))
    · rw [if_neg q2]
      have c2 := Decidable.not_not.mp q2
      obtain ⟨p, hp, rfl⟩ := ex_nI (N := 341) (n := 341) rfl (by decide) (of_decide_eq_true c1)
      have kp : (nI p).toNatClampNeg = p := nI_clamp (by omega)
      obtain ⟨v, hv, rfl⟩ := ex_nI (N := 4) (n := 4) rfl (by decide) (of_decide_eq_true c2)
      have kv : (nI v).toNatClampNeg = v := nI_clamp (by omega)
      refine X_istore_n (i := 3) (nx := 7) dX8_match_6 rfl rfl (by decide) rfl (st_s (st_s (st_s (st_0)))) ?_
      refine X_iload_n (nx := 8) dX8_match_7 rfl rfl rfl ?_
      refine X_if_eq (tgt := 19) (nx := 11) dX8_match_8 rfl rfl (fun h8 => ?_) (fun h8 => ?_)
      · skip
        refine X_aload_n (nx := 20) dX8_match_19 rfl rfl rfl ?_
        refine X_iload_n (nx := 21) dX8_match_20 rfl rfl rfl ?_
        refine X_iload_n (nx := 22) dX8_match_21 rfl rfl rfl ?_
        refine Z_Vi2 (nx := 25) dX8_match_22 rfl ml_RX8_314 kj_X8_matchOf kv_X8_matchOf (sp_X8_matchOf h.1 hw.1 hw.1.1 tle rfl hp rfl hv) (by first | assumption | rfl | decide | omega) (by first | assumption | rfl | decide | omega) (by decide) rfl (by first | decide | omega) (by exact Nat.le_of_ble_eq_true rfl) (fun u22 D22 g22 => ?_)
        exact Z_reti dX8_match_25 (Or.inl rfl) (by unfold m_match; first | (rw [if_neg q1]; exact ck2_no (k := 1) h Fr.rf (by omega) (by omega)) | (rw [if_pos c1, if_neg q2]; exact ck2_no (k := 2) h Fr.rf (by omega) (by omega)) | (rw [if_pos c1, if_pos c2, kp, kv]; exact ck2_s g22.2.2.1 (br_inv h hw g22).1 (br_inv h hw g22).2))
      · exact absurd h8 (by decide)
theorem dX8_looked_0 : decode cX8_looked 0 = .ok (.aload_n 0, 1) := by decide +kernel
theorem dX8_looked_1 : decode cX8_looked 1 = .ok (.iload_n 1, 1) := by decide +kernel
theorem dX8_looked_2 : decode cX8_looked 2 = .ok (.iload_n 2, 1) := by decide +kernel
theorem dX8_looked_3 : decode cX8_looked 3 = .ok (.invokevirtual 311, 3) := by decide +kernel
theorem dX8_looked_6 : decode cX8_looked 6 = .ok (.istore_n 3, 1) := by decide +kernel
theorem dX8_looked_7 : decode cX8_looked 7 = .ok (.iload_n 3, 1) := by decide +kernel
theorem dX8_looked_8 : decode cX8_looked 8 = .ok (.ifCond .eq 9, 3) := by decide +kernel
theorem dX8_looked_11 : decode cX8_looked 11 = .ok (.aload_n 0, 1) := by decide +kernel
theorem dX8_looked_12 : decode cX8_looked 12 = .ok (.iload_n 3, 1) := by decide +kernel
theorem dX8_looked_13 : decode cX8_looked 13 = .ok (.invokevirtual 211, 3) := by decide +kernel
theorem dX8_looked_16 : decode cX8_looked 16 = .ok (.ireturn, 1) := by decide +kernel
theorem dX8_looked_17 : decode cX8_looked 17 = .ok (.aload_n 0, 1) := by decide +kernel
theorem dX8_looked_18 : decode cX8_looked 18 = .ok (.iload_n 1, 1) := by decide +kernel
theorem dX8_looked_19 : decode cX8_looked 19 = .ok (.iload_n 2, 1) := by decide +kernel
theorem dX8_looked_20 : decode cX8_looked 20 = .ok (.invokevirtual 314, 3) := by decide +kernel
theorem dX8_looked_23 : decode cX8_looked 23 = .ok (.pop, 1) := by decide +kernel
theorem dX8_looked_24 : decode cX8_looked 24 = .ok (.aload_n 0, 1) := by decide +kernel
theorem dX8_looked_25 : decode cX8_looked 25 = .ok (.getfield 137, 3) := by decide +kernel
theorem dX8_looked_28 : decode cX8_looked 28 = .ok (.ireturn, 1) := by decide +kernel
theorem sp_X8_looked {x y : Int32} {S : St} {D : Mem} (h : INV2 D S) (hw : WF S) : Rix 6 j_X8_looked [.ref 104, .int x, .int y] D (fun u D' => CK2 D (m_looked S x y) u D') := by
  refine E.start 1 (ls := [some (.ref 104), some (.int x), some (.int y), none]) (by decide +kernel) (Nat.le_of_ble_eq_true rfl) rfl (Nat.le_refl _) (Nat.le_refl _) ?_
  have hcm := hw.1.2.1
  have hB2 := h.1.2.1
  refine X_aload_n (nx := 1) dX8_looked_0 rfl rfl rfl ?_
  refine X_iload_n (nx := 2) dX8_looked_1 rfl rfl rfl ?_
  refine X_iload_n (nx := 3) dX8_looked_2 rfl rfl rfl ?_
  refine Y_Vi2 (nx := 6) dX8_looked_3 rfl ml_RX8_311 kj_X8_notAsked kv_X8_notAsked (sp_X8_notAsked) (by first | assumption | rfl | decide | omega) (by first | assumption | rfl | decide | omega) (by decide) rfl (by first | decide | omega) (by exact Nat.le_of_ble_eq_true rfl) ?_
  by_cases q1 : ¬ decide (0 ≤ x ∧ x < 341) = true
  · rw [if_pos q1]
    refine X_istore_n (i := 3) (nx := 7) dX8_looked_6 rfl rfl (by decide) rfl (st_s (st_s (st_s (st_0)))) ?_
    refine X_iload_n (nx := 8) dX8_looked_7 rfl rfl rfl ?_
    refine X_if_eq (tgt := 17) (nx := 11) dX8_looked_8 rfl rfl (fun h8 => ?_) (fun h8 => ?_)
    · exact absurd h8 (by decide)
    · skip
      refine X_aload_n (nx := 12) dX8_looked_11 rfl rfl rfl ?_
      refine X_iload_n (nx := 13) dX8_looked_12 rfl rfl rfl ?_
      refine Y_Vi1 (nx := 16) dX8_looked_13 rfl ml_RX8_211 kj_X8_no kv_X8_no (by first | exact sp_X8_no (k := 1) rfl (by omega) (by omega) | exact sp_X8_no (k := 2) rfl (by omega) (by omega)) (by first | assumption | rfl | decide | omega) (by first | assumption | rfl | decide | omega) (by decide) rfl (by first | decide | omega) (by exact Nat.le_of_ble_eq_true rfl) ?_
      exact Z_reti dX8_looked_16 (Or.inl rfl) (by unfold m_looked; first | (rw [if_neg q1]; exact ck2_no (k := 1) h Fr.rf (by omega) (by omega)) | (rw [if_pos c1, if_neg q2]; exact ck2_no (k := 2) h Fr.rf (by omega) (by omega)))
  · rw [if_neg q1]
    have c1 := Decidable.not_not.mp q1
    by_cases q2 : ¬ decide (0 ≤ y ∧ y < 4) = true
    · rw [if_pos q2]
      refine X_istore_n (i := 3) (nx := 7) dX8_looked_6 rfl rfl (by decide) rfl (st_s (st_s (st_s (st_0)))) ?_
      refine X_iload_n (nx := 8) dX8_looked_7 rfl rfl rfl ?_
      refine X_if_eq (tgt := 17) (nx := 11) dX8_looked_8 rfl rfl (fun h8 => ?_) (fun h8 => ?_)
      · exact absurd h8 (by decide)
      · skip
        refine X_aload_n (nx := 12) dX8_looked_11 rfl rfl rfl ?_
        refine X_iload_n (nx := 13) dX8_looked_12 rfl rfl rfl ?_
        refine Y_Vi1 (nx := 16) dX8_looked_13 rfl ml_RX8_211 kj_X8_no kv_X8_no (by first | exact sp_X8_no (k := 1) rfl (by omega) (by omega) | exact sp_X8_no (k := 2) rfl (by omega) (by omega)) (by first | assumption | rfl | decide | omega) (by first | assumption | rfl | decide | omega) (by decide) rfl (by first | decide | omega) (by exact Nat.le_of_ble_eq_true rfl) ?_
        exact Z_reti dX8_looked_16 (Or.inl rfl) (by unfold m_looked; first | (rw [if_neg q1]; exact ck2_no (k := 1) h Fr.rf (by omega) (by omega)) | (rw [if_pos c1, if_neg q2]; exact ck2_no (k := 2) h Fr.rf (by omega) (by omega)))
    · rw [if_neg q2]
      have c2 := Decidable.not_not.mp q2
      obtain ⟨p, hp, rfl⟩ := ex_nI (N := 341) (n := 341) rfl (by decide) (of_decide_eq_true c1)
      have kp : (nI p).toNatClampNeg = p := nI_clamp (by omega)
      obtain ⟨v, hv, rfl⟩ := ex_nI (N := 4) (n := 4) rfl (by decide) (of_decide_eq_true c2)
      have kv : (nI v).toNatClampNeg = v := nI_clamp (by omega)
      refine X_istore_n (i := 3) (nx := 7) dX8_looked_6 rfl rfl (by decide) rfl (st_s (st_s (st_s (st_0)))) ?_
      refine X_iload_n (nx := 8) dX8_looked_7 rfl rfl rfl ?_
      refine X_if_eq (tgt := 17) (nx := 11) dX8_looked_8 rfl rfl (fun h8 => ?_) (fun h8 => ?_)
      · skip
        refine X_aload_n (nx := 18) dX8_looked_17 rfl rfl rfl ?_
        refine X_iload_n (nx := 19) dX8_looked_18 rfl rfl rfl ?_
        refine X_iload_n (nx := 20) dX8_looked_19 rfl rfl rfl ?_
        refine Z_Vi2 (nx := 23) dX8_looked_20 rfl ml_RX8_314 kj_X8_matchOf kv_X8_matchOf (sp_X8_matchOf h.1 hw.1 hw.1.1 tle rfl hp rfl hv) (by first | assumption | rfl | decide | omega) (by first | assumption | rfl | decide | omega) (by decide) rfl (by first | decide | omega) (by exact Nat.le_of_ble_eq_true rfl) (fun u20 D20 g20 => ?_)
        refine X_pop (nx := 24) dX8_looked_23 rfl rfl ?_
        refine X_aload_n (nx := 25) dX8_looked_24 rfl rfl rfl ?_
        refine M_getI (nx := 28) dX8_looked_25 rfl fl_RX8_137 rfl (by first | assumption | rfl | decide | omega) (by first | assumption | rfl | decide | omega) ?_
        refine X_top (g20.2.2.2.1) ?_
        exact Z_reti dX8_looked_28 (Or.inl rfl) (by unfold m_looked; rw [if_pos c1, if_pos c2, kp, kv]; exact ck2_s rfl (br_inv h hw g20).1 (br_inv h hw g20).2)
      · exact absurd h8 (by decide)
theorem dX8_verbs_0 : decode cX8_verbs 0 = .ok (.iload_n 1, 1) := by decide +kernel
theorem dX8_verbs_1 : decode cX8_verbs 1 = .ok (.invokestatic 308, 3) := by decide +kernel
theorem dX8_verbs_4 : decode cX8_verbs 4 = .ok (.ifCond .ne 9, 3) := by decide +kernel
theorem dX8_verbs_7 : decode cX8_verbs 7 = .ok (.aload_n 0, 1) := by decide +kernel
theorem dX8_verbs_8 : decode cX8_verbs 8 = .ok (.iconst (-1), 1) := by decide +kernel
theorem dX8_verbs_9 : decode cX8_verbs 9 = .ok (.invokevirtual 211, 3) := by decide +kernel
theorem dX8_verbs_12 : decode cX8_verbs 12 = .ok (.ireturn, 1) := by decide +kernel
theorem dX8_verbs_13 : decode cX8_verbs 13 = .ok (.iconst 0, 1) := by decide +kernel
theorem dX8_verbs_14 : decode cX8_verbs 14 = .ok (.istore_n 2, 1) := by decide +kernel
theorem dX8_verbs_15 : decode cX8_verbs 15 = .ok (.iconst 0, 1) := by decide +kernel
theorem dX8_verbs_16 : decode cX8_verbs 16 = .ok (.istore_n 3, 1) := by decide +kernel
theorem dX8_verbs_17 : decode cX8_verbs 17 = .ok (.iload_n 3, 1) := by decide +kernel
theorem dX8_verbs_18 : decode cX8_verbs 18 = .ok (.iconst 4, 1) := by decide +kernel
theorem dX8_verbs_19 : decode cX8_verbs 19 = .ok (.if_icmp .ge 28, 3) := by decide +kernel
theorem dX8_verbs_22 : decode cX8_verbs 22 = .ok (.iload_n 2, 1) := by decide +kernel
theorem dX8_verbs_23 : decode cX8_verbs 23 = .ok (.aload_n 0, 1) := by decide +kernel
theorem dX8_verbs_24 : decode cX8_verbs 24 = .ok (.iload_n 1, 1) := by decide +kernel
theorem dX8_verbs_25 : decode cX8_verbs 25 = .ok (.iload_n 3, 1) := by decide +kernel
theorem dX8_verbs_26 : decode cX8_verbs 26 = .ok (.invokevirtual 314, 3) := by decide +kernel
theorem dX8_verbs_29 : decode cX8_verbs 29 = .ok (.ifCond .lt 9, 3) := by decide +kernel
theorem dX8_verbs_32 : decode cX8_verbs 32 = .ok (.iconst 1, 1) := by decide +kernel
theorem dX8_verbs_33 : decode cX8_verbs 33 = .ok (.iload_n 3, 1) := by decide +kernel
theorem dX8_verbs_34 : decode cX8_verbs 34 = .ok (.ishl, 1) := by decide +kernel
theorem dX8_verbs_35 : decode cX8_verbs 35 = .ok (.goto 4, 3) := by decide +kernel
theorem dX8_verbs_38 : decode cX8_verbs 38 = .ok (.iconst 0, 1) := by decide +kernel
theorem dX8_verbs_39 : decode cX8_verbs 39 = .ok (.ior, 1) := by decide +kernel
theorem dX8_verbs_40 : decode cX8_verbs 40 = .ok (.istore_n 2, 1) := by decide +kernel
theorem dX8_verbs_41 : decode cX8_verbs 41 = .ok (.iinc 3 1, 3) := by decide +kernel
theorem dX8_verbs_44 : decode cX8_verbs 44 = .ok (.goto (-27), 3) := by decide +kernel
theorem dX8_verbs_47 : decode cX8_verbs 47 = .ok (.iload_n 2, 1) := by decide +kernel
theorem dX8_verbs_48 : decode cX8_verbs 48 = .ok (.ireturn, 1) := by decide +kernel
theorem lp_X8_verbs {S : St} {D : Mem} {p : Nat} (hw : WF S) (hp : p < 341) : ∀ (m : Nat) (i : Nat) (D1 : Mem), i + m = 4 → INV2 D1 S → Fr inR D D1 → X 6 138 j_X8_verbs 17 [some (.ref 104), some (.int (nI p)), some (.int (nI (mkn (fun v => (ME S v p).isSome) i))), some (.int (nI i))] [] (138, P0, D1) (fun x σ => ∃ (u : Int32) (D' : Mem), x = [.int u] ∧ σ = wd D' ∧ CK2 D (nI (mkn (fun v => (ME S v p).isSome) 4), S) u D') := by
  intro m
  induction m with
  | zero =>
    intro i D1 hi h hf
    refine X_iload_n (nx := 18) dX8_verbs_17 rfl rfl rfl ?_
    refine X_iconst (v := nI 4) (nx := 19) dX8_verbs_18 rfl rfl ?_
    refine X_icmp_ge (tgt := 47) (nx := 22) dX8_verbs_19 rfl rfl (fun h19 => ?_) (fun h19 => ?_)
    · skip
      refine X_iload_n (nx := 48) dX8_verbs_47 rfl rfl rfl ?_
      exact Z_reti dX8_verbs_48 (Or.inl rfl) (by obtain rfl : i = 4 := (by omega); exact ck2_s rfl h hf)
    · exact absurd h19 (fun q => q (nI_le (by omega) (by omega)))
  | succ m ih =>
    intro i D1 hi h hf
    refine X_iload_n (nx := 18) dX8_verbs_17 rfl rfl rfl ?_
    refine X_iconst (v := nI 4) (nx := 19) dX8_verbs_18 rfl rfl ?_
    refine X_icmp_ge (tgt := 47) (nx := 22) dX8_verbs_19 rfl rfl (fun h19 => ?_) (fun h19 => ?_)
    · exact absurd h19 (nI_ge (by omega) (by omega))
    · skip
      refine X_iload_n (nx := 23) dX8_verbs_22 rfl rfl rfl ?_
      refine X_aload_n (nx := 24) dX8_verbs_23 rfl rfl rfl ?_
      refine X_iload_n (nx := 25) dX8_verbs_24 rfl rfl rfl ?_
      refine X_iload_n (nx := 26) dX8_verbs_25 rfl rfl rfl ?_
      refine Z_Vi2 (nx := 29) dX8_verbs_26 rfl ml_RX8_314 kj_X8_matchOf kv_X8_matchOf (sp_X8_matchOf h.1 hw.1 hw.1.1 tle rfl hp rfl (by omega)) (by first | assumption | rfl | decide | omega) (by first | assumption | rfl | decide | omega) (by decide) rfl (by first | decide | omega) (by exact Nat.le_of_ble_eq_true rfl) (fun u26 D26 g26 => ?_)
      refine X_if_lt (tgt := 38) (nx := 32) dX8_verbs_29 rfl rfl (fun h29 => ?_) (fun h29 => ?_)
      · skip
        have hz : (fun v => (ME S v p).isSome) i = false := mo_f g26 h29
        refine X_iconst (v := 0) (nx := 39) dX8_verbs_38 rfl rfl ?_
        refine X_ior (nx := 40) dX8_verbs_39 rfl ?_
        refine X_top (show _ = nI (mkn (fun v => (ME S v p).isSome) (i + 1)) from (by first | exact ior_step hz (by omega) | exact or_f hz)) ?_
        refine X_istore_n (i := 2) (nx := 41) dX8_verbs_40 rfl rfl (by decide) rfl (st_s (st_s (st_0))) ?_
        refine X_iinc (nx := 44) dX8_verbs_41 rfl (by decide) rfl (by first | exact ii1 _ | rfl) rfl (st_s (st_s (st_s (st_0)))) ?_
        refine X_goto (tgt := 17) dX8_verbs_44 rfl ?_
        exact ih (i + 1) D26 (by omega) (br_inv h hw g26).1 (hf.tr (br_inv h hw g26).2)
      · skip
        have hz : (fun v => (ME S v p).isSome) i = true := mo_t g26 h29
        refine X_iconst (v := 1) (nx := 33) dX8_verbs_32 rfl rfl ?_
        refine X_iload_n (nx := 34) dX8_verbs_33 rfl rfl rfl ?_
        refine X_ishl (nx := 35) dX8_verbs_34 rfl ?_
        refine X_goto (tgt := 39) dX8_verbs_35 rfl ?_
        refine X_ior (nx := 40) dX8_verbs_39 rfl ?_
        refine X_top (show _ = nI (mkn (fun v => (ME S v p).isSome) (i + 1)) from (by first | exact ior_step hz (by omega) | exact or_f hz)) ?_
        refine X_istore_n (i := 2) (nx := 41) dX8_verbs_40 rfl rfl (by decide) rfl (st_s (st_s (st_0))) ?_
        refine X_iinc (nx := 44) dX8_verbs_41 rfl (by decide) rfl (by first | exact ii1 _ | rfl) rfl (st_s (st_s (st_s (st_0)))) ?_
        refine X_goto (tgt := 17) dX8_verbs_44 rfl ?_
        exact ih (i + 1) D26 (by omega) (br_inv h hw g26).1 (hf.tr (br_inv h hw g26).2)
theorem sp_X8_verbs {x : Int32} {S : St} {D : Mem} (h : INV2 D S) (hw : WF S) : Rix 6 j_X8_verbs [.ref 104, .int x] D (fun u D' => CK2 D (m_verbs S x) u D') := by
  refine E.start 2 (ls := [some (.ref 104), some (.int x), none, none]) (by decide +kernel) (Nat.le_of_ble_eq_true rfl) rfl (Nat.le_refl _) (Nat.le_refl _) ?_
  have hcm := hw.1.2.1
  have hB2 := h.1.2.1
  refine X_iload_n (nx := 1) dX8_verbs_0 rfl rfl rfl ?_
  refine Y_Si1 (nx := 4) dX8_verbs_1 rfl ml_RX8_308 kj_X8_isPath ks_X8_isPath (sp_X8_isPath) (by first | decide | omega) (by exact Nat.le_of_ble_eq_true rfl) ?_
  refine X_if_ne (tgt := 13) (nx := 7) dX8_verbs_4 rfl rfl (fun h4 => ?_) (fun h4 => ?_)
  · skip
    have c4 := b2i_t.mp h4
    obtain ⟨p, hp, rfl⟩ := ex_nI (N := 341) (n := 341) rfl (by decide) (of_decide_eq_true c4)
    have k4 : (nI p).toNatClampNeg = p := nI_clamp (by omega)
    refine X_iconst (v := 0) (nx := 14) dX8_verbs_13 rfl rfl ?_
    refine X_istore_n (i := 2) (nx := 15) dX8_verbs_14 rfl rfl (by decide) rfl (st_s (st_s (st_0))) ?_
    refine X_iconst (v := nI 0) (nx := 16) dX8_verbs_15 rfl rfl ?_
    refine X_istore_n (i := 3) (nx := 17) dX8_verbs_16 rfl rfl (by decide) rfl (st_s (st_s (st_s (st_0)))) ?_
    (unfold m_verbs; rw [if_pos c4, k4]; exact lp_X8_verbs hw hp 4 0 D rfl h Fr.rf)
  · skip
    have n4 := nb h4
    refine X_aload_n (nx := 8) dX8_verbs_7 rfl rfl rfl ?_
    refine X_iconst (v := -1) (nx := 9) dX8_verbs_8 rfl rfl ?_
    refine Y_Vi1 (nx := 12) dX8_verbs_9 rfl ml_RX8_211 kj_X8_no kv_X8_no (sp_X8_no (k := 1) rfl (by omega) (by omega)) (by first | assumption | rfl | decide | omega) (by first | assumption | rfl | decide | omega) (by decide) rfl (by first | decide | omega) (by exact Nat.le_of_ble_eq_true rfl) ?_
    exact Z_reti dX8_verbs_12 (Or.inl rfl) (by unfold m_verbs; rw [if_neg n4]; exact ck2_no (k := 1) h Fr.rf (by omega) (by omega))
/-- all paths by a verb -/
def BA2 (D : Mem) (S : St) (T : Nat → Bool) (K F : Nat → Nat) (v n : Nat) (D' : Mem) : Prop := INVT D' S T K F ∧ Fq SCR D D' ∧ D' 104 42 = nI (sumN (fun p => (mt (bk S) (wT (bk S) T) v p K F).2) n)
theorem ba2_s {D D1 D2 : Mem} {S : St} {T : Nat → Bool} {K F : Nat → Nat} {v n : Nat} {u x : Int32} (hw : WF S) (h : BA2 D S T K F v n D1) (g : BR2 (bk S) T K F v n D1 u D2) (hx : x = D2 104 42 + D2 104 22) : BA2 D S T K F v (n + 1) (up2 D2 104 42 x) := by
  obtain ⟨a1, a2, a3⟩ := h
  subst hx
  have hq : Fq SCR D1 (up2 D2 104 42 (D2 104 42 + D2 104 22)) := (g.2.1.mono (fun _ _ q => q.scr)).tr (Fq.up (by unfold SCR; omega))
  refine ⟨a1.fq hw hq, a2.tr hq, ?_⟩
  rw [up2_same, g.2.2.2.1, g.2.1 104 42 (by unfold SM; omega), a3]
  exact nI_add _ _
theorem dX8_matchedBy_0 : decode cX8_matchedBy 0 = .ok (.iconst 0, 1) := by decide +kernel
theorem dX8_matchedBy_1 : decode cX8_matchedBy 1 = .ok (.istore_n 2, 1) := by decide +kernel
theorem dX8_matchedBy_2 : decode cX8_matchedBy 2 = .ok (.aload_n 0, 1) := by decide +kernel
theorem dX8_matchedBy_3 : decode cX8_matchedBy 3 = .ok (.iconst 0, 1) := by decide +kernel
theorem dX8_matchedBy_4 : decode cX8_matchedBy 4 = .ok (.putfield 326, 3) := by decide +kernel
theorem dX8_matchedBy_7 : decode cX8_matchedBy 7 = .ok (.iconst 0, 1) := by decide +kernel
theorem dX8_matchedBy_8 : decode cX8_matchedBy 8 = .ok (.istore_n 3, 1) := by decide +kernel
theorem dX8_matchedBy_9 : decode cX8_matchedBy 9 = .ok (.iload_n 3, 1) := by decide +kernel
theorem dX8_matchedBy_10 : decode cX8_matchedBy 10 = .ok (.sipush 341, 3) := by decide +kernel
theorem dX8_matchedBy_13 : decode cX8_matchedBy 13 = .ok (.if_icmp .ge 39, 3) := by decide +kernel
theorem dX8_matchedBy_16 : decode cX8_matchedBy 16 = .ok (.iload_n 2, 1) := by decide +kernel
theorem dX8_matchedBy_17 : decode cX8_matchedBy 17 = .ok (.aload_n 0, 1) := by decide +kernel
theorem dX8_matchedBy_18 : decode cX8_matchedBy 18 = .ok (.iload_n 3, 1) := by decide +kernel
theorem dX8_matchedBy_19 : decode cX8_matchedBy 19 = .ok (.iload_n 1, 1) := by decide +kernel
theorem dX8_matchedBy_20 : decode cX8_matchedBy 20 = .ok (.invokevirtual 314, 3) := by decide +kernel
theorem dX8_matchedBy_23 : decode cX8_matchedBy 23 = .ok (.ifCond .lt 7, 3) := by decide +kernel
theorem dX8_matchedBy_26 : decode cX8_matchedBy 26 = .ok (.iconst 1, 1) := by decide +kernel
theorem dX8_matchedBy_27 : decode cX8_matchedBy 27 = .ok (.goto 4, 3) := by decide +kernel
theorem dX8_matchedBy_30 : decode cX8_matchedBy 30 = .ok (.iconst 0, 1) := by decide +kernel
theorem dX8_matchedBy_31 : decode cX8_matchedBy 31 = .ok (.iadd, 1) := by decide +kernel
theorem dX8_matchedBy_32 : decode cX8_matchedBy 32 = .ok (.istore_n 2, 1) := by decide +kernel
theorem dX8_matchedBy_33 : decode cX8_matchedBy 33 = .ok (.aload_n 0, 1) := by decide +kernel
theorem dX8_matchedBy_34 : decode cX8_matchedBy 34 = .ok (.dup, 1) := by decide +kernel
theorem dX8_matchedBy_35 : decode cX8_matchedBy 35 = .ok (.getfield 326, 3) := by decide +kernel
theorem dX8_matchedBy_38 : decode cX8_matchedBy 38 = .ok (.aload_n 0, 1) := by decide +kernel
theorem dX8_matchedBy_39 : decode cX8_matchedBy 39 = .ok (.getfield 137, 3) := by decide +kernel
theorem dX8_matchedBy_42 : decode cX8_matchedBy 42 = .ok (.iadd, 1) := by decide +kernel
theorem dX8_matchedBy_43 : decode cX8_matchedBy 43 = .ok (.putfield 326, 3) := by decide +kernel
theorem dX8_matchedBy_46 : decode cX8_matchedBy 46 = .ok (.iinc 3 1, 3) := by decide +kernel
theorem dX8_matchedBy_49 : decode cX8_matchedBy 49 = .ok (.goto (-40), 3) := by decide +kernel
theorem dX8_matchedBy_52 : decode cX8_matchedBy 52 = .ok (.iload_n 2, 1) := by decide +kernel
theorem dX8_matchedBy_53 : decode cX8_matchedBy 53 = .ok (.ireturn, 1) := by decide +kernel
theorem lp_X8_matchedBy {S : St} {T : Nat → Bool} {K F : Nat → Nat} {v : Nat} {D : Mem} (hw : WF S) (hK : ∀ i, i < 3 → K i ≤ 5 ∧ F i ≤ 9) (hT : TLE (bk S) T) (hv : v < 4) : ∀ (m : Nat) (i : Nat) (D1 : Mem), i + m = 341 → BA2 D S T K F v i D1 → X 6 138 j_X8_matchedBy 9 [some (.ref 104), some (.int (nI v)), some (.int (nI (cn (fun p => (mtE (bk S) (wT (bk S) T) v p K F).isSome) i))), some (.int (nI i))] [] (138, P0, D1) (fun x σ => ∃ (u : Int32) (D' : Mem), x = [.int u] ∧ σ = wd D' ∧ (u = nI (cn (fun p => (mtE (bk S) (wT (bk S) T) v p K F).isSome) 341) ∧ BA2 D S T K F v 341 D')) := by
  intro m
  induction m with
  | zero =>
    intro i D1 hi h
    refine X_iload_n (nx := 10) dX8_matchedBy_9 rfl rfl rfl ?_
    refine X_sipush (v := nI 341) (nx := 13) dX8_matchedBy_10 rfl rfl ?_
    refine X_icmp_ge (tgt := 52) (nx := 16) dX8_matchedBy_13 rfl rfl (fun h13 => ?_) (fun h13 => ?_)
    · skip
      refine X_iload_n (nx := 53) dX8_matchedBy_52 rfl rfl rfl ?_
      exact Z_reti dX8_matchedBy_53 (Or.inl rfl) (by obtain rfl : i = 341 := (by omega); exact ⟨rfl, h⟩)
    · exact absurd h13 (fun q => q (nI_le (by omega) (by omega)))
  | succ m ih =>
    intro i D1 hi h
    refine X_iload_n (nx := 10) dX8_matchedBy_9 rfl rfl rfl ?_
    refine X_sipush (v := nI 341) (nx := 13) dX8_matchedBy_10 rfl rfl ?_
    refine X_icmp_ge (tgt := 52) (nx := 16) dX8_matchedBy_13 rfl rfl (fun h13 => ?_) (fun h13 => ?_)
    · exact absurd h13 (nI_ge (by omega) (by omega))
    · skip
      refine X_iload_n (nx := 17) dX8_matchedBy_16 rfl rfl rfl ?_
      refine X_aload_n (nx := 18) dX8_matchedBy_17 rfl rfl rfl ?_
      refine X_iload_n (nx := 19) dX8_matchedBy_18 rfl rfl rfl ?_
      refine X_iload_n (nx := 20) dX8_matchedBy_19 rfl rfl rfl ?_
      refine Z_Vi2 (nx := 23) dX8_matchedBy_20 rfl ml_RX8_314 kj_X8_matchOf kv_X8_matchOf (sp_X8_matchOf h.1.1 hw.1 hK hT rfl (by omega) rfl hv) (by first | assumption | rfl | decide | omega) (by first | assumption | rfl | decide | omega) (by decide) rfl (by first | decide | omega) (by exact Nat.le_of_ble_eq_true rfl) (fun u20 D20 g20 => ?_)
      refine X_if_lt (tgt := 30) (nx := 26) dX8_matchedBy_23 rfl rfl (fun h23 => ?_) (fun h23 => ?_)
      · skip
        have hz := cn_0 (p := (fun p => (mtE (bk S) (wT (bk S) T) v p K F).isSome)) (n := i) (mo_f g20 h23)
        refine X_iconst (v := 0) (nx := 31) dX8_matchedBy_30 rfl rfl ?_
        refine X_iadd (nx := 32) dX8_matchedBy_31 rfl ?_
        refine X_top (show _ = nI (cn (fun p => (mtE (bk S) (wT (bk S) T) v p K F).isSome) (i + 1)) from (by first | exact hz.1 | (rw [Int32.add_zero]; exact congrArg nI hz.1))) ?_
        refine X_istore_n (i := 2) (nx := 33) dX8_matchedBy_32 rfl rfl (by decide) rfl (st_s (st_s (st_0))) ?_
        refine X_aload_n (nx := 34) dX8_matchedBy_33 rfl rfl rfl ?_
        refine X_dup (nx := 35) dX8_matchedBy_34 rfl rfl ?_
        refine M_getI (nx := 38) dX8_matchedBy_35 rfl fl_RX8_326 rfl (by first | assumption | rfl | decide | omega) (by first | assumption | rfl | decide | omega) ?_
        refine X_aload_n (nx := 39) dX8_matchedBy_38 rfl rfl rfl ?_
        refine M_getI (nx := 42) dX8_matchedBy_39 rfl fl_RX8_137 rfl (by first | assumption | rfl | decide | omega) (by first | assumption | rfl | decide | omega) ?_
        refine X_iadd (nx := 43) dX8_matchedBy_42 rfl ?_
        refine M_putI (nx := 46) dX8_matchedBy_43 rfl fl_RX8_326 rfl rfl (by first | assumption | rfl | decide | omega) (by first | assumption | rfl | decide | omega) ?_
        refine X_iinc (nx := 49) dX8_matchedBy_46 rfl (by decide) rfl (by first | exact ii1 _ | rfl) rfl (st_s (st_s (st_s (st_0)))) ?_
        refine X_goto (tgt := 9) dX8_matchedBy_49 rfl ?_
        exact ih (i + 1) _ (by omega) (ba2_s hw h g20 rfl)
      · skip
        have hz := cn_1 (p := (fun p => (mtE (bk S) (wT (bk S) T) v p K F).isSome)) (n := i) (mo_t g20 h23)
        refine X_iconst (v := 1) (nx := 27) dX8_matchedBy_26 rfl rfl ?_
        refine X_goto (tgt := 31) dX8_matchedBy_27 rfl ?_
        refine X_iadd (nx := 32) dX8_matchedBy_31 rfl ?_
        refine X_top (show _ = nI (cn (fun p => (mtE (bk S) (wT (bk S) T) v p K F).isSome) (i + 1)) from (by first | exact hz.1 | (rw [Int32.add_zero]; exact congrArg nI hz.1))) ?_
        refine X_istore_n (i := 2) (nx := 33) dX8_matchedBy_32 rfl rfl (by decide) rfl (st_s (st_s (st_0))) ?_
        refine X_aload_n (nx := 34) dX8_matchedBy_33 rfl rfl rfl ?_
        refine X_dup (nx := 35) dX8_matchedBy_34 rfl rfl ?_
        refine M_getI (nx := 38) dX8_matchedBy_35 rfl fl_RX8_326 rfl (by first | assumption | rfl | decide | omega) (by first | assumption | rfl | decide | omega) ?_
        refine X_aload_n (nx := 39) dX8_matchedBy_38 rfl rfl rfl ?_
        refine M_getI (nx := 42) dX8_matchedBy_39 rfl fl_RX8_137 rfl (by first | assumption | rfl | decide | omega) (by first | assumption | rfl | decide | omega) ?_
        refine X_iadd (nx := 43) dX8_matchedBy_42 rfl ?_
        refine M_putI (nx := 46) dX8_matchedBy_43 rfl fl_RX8_326 rfl rfl (by first | assumption | rfl | decide | omega) (by first | assumption | rfl | decide | omega) ?_
        refine X_iinc (nx := 49) dX8_matchedBy_46 rfl (by decide) rfl (by first | exact ii1 _ | rfl) rfl (st_s (st_s (st_s (st_0)))) ?_
        refine X_goto (tgt := 9) dX8_matchedBy_49 rfl ?_
        exact ih (i + 1) _ (by omega) (ba2_s hw h g20 rfl)
theorem sp_X8_matchedBy {y : Int32} {S : St} {T : Nat → Bool} {K F : Nat → Nat} {v : Nat} {D : Mem} (hw : WF S) (hK : ∀ i, i < 3 → K i ≤ 5 ∧ F i ≤ 9) (hT : TLE (bk S) T) (hv : v < 4) (h : INVT D S T K F) (hy : y = nI v) : Rix 6 j_X8_matchedBy [.ref 104, .int y] D (fun u D' => u = nI (cn (fun p => (mtE (bk S) (wT (bk S) T) v p K F).isSome) 341) ∧ BA2 D S T K F v 341 D') := by
  refine E.start 2 (ls := [some (.ref 104), some (.int y), none, none]) (by decide +kernel) (Nat.le_of_ble_eq_true rfl) rfl (Nat.le_refl _) (Nat.le_refl _) ?_
  subst hy
  refine X_iconst (v := 0) (nx := 1) dX8_matchedBy_0 rfl rfl ?_
  refine X_istore_n (i := 2) (nx := 2) dX8_matchedBy_1 rfl rfl (by decide) rfl (st_s (st_s (st_0))) ?_
  refine X_aload_n (nx := 3) dX8_matchedBy_2 rfl rfl rfl ?_
  refine X_iconst (v := 0) (nx := 4) dX8_matchedBy_3 rfl rfl ?_
  refine M_putI (nx := 7) dX8_matchedBy_4 rfl fl_RX8_326 rfl rfl (by first | assumption | rfl | decide | omega) (by first | assumption | rfl | decide | omega) ?_
  refine X_iconst (v := nI 0) (nx := 8) dX8_matchedBy_7 rfl rfl ?_
  refine X_istore_n (i := 3) (nx := 9) dX8_matchedBy_8 rfl rfl (by decide) rfl (st_s (st_s (st_s (st_0)))) ?_
  exact lp_X8_matchedBy hw hK hT hv 341 0 _ rfl ⟨h.fq hw (Fq.up (by unfold SCR; omega)), Fq.up (by unfold SCR; omega), up2_same⟩
theorem dX8_matched_0 : decode cX8_matched 0 = .ok (.iload_n 1, 1) := by decide +kernel
theorem dX8_matched_1 : decode cX8_matched 1 = .ok (.invokestatic 243, 3) := by decide +kernel
theorem dX8_matched_4 : decode cX8_matched 4 = .ok (.ifCond .eq 11, 3) := by decide +kernel
theorem dX8_matched_7 : decode cX8_matched 7 = .ok (.aload_n 0, 1) := by decide +kernel
theorem dX8_matched_8 : decode cX8_matched 8 = .ok (.iload_n 1, 1) := by decide +kernel
theorem dX8_matched_9 : decode cX8_matched 9 = .ok (.invokevirtual 329, 3) := by decide +kernel
theorem dX8_matched_12 : decode cX8_matched 12 = .ok (.goto 9, 3) := by decide +kernel
theorem dX8_matched_15 : decode cX8_matched 15 = .ok (.aload_n 0, 1) := by decide +kernel
theorem dX8_matched_16 : decode cX8_matched 16 = .ok (.bipush (-2), 2) := by decide +kernel
theorem dX8_matched_18 : decode cX8_matched 18 = .ok (.invokevirtual 211, 3) := by decide +kernel
theorem dX8_matched_21 : decode cX8_matched 21 = .ok (.ireturn, 1) := by decide +kernel
theorem sp_X8_matched {y : Int32} {S : St} {D : Mem} (h : INV2 D S) (hw : WF S) : Rix 7 j_X8_matched [.ref 104, .int y] D (fun u D' => CK2 D (m_matched S y) u D') := by
  refine E.start 0 (ls := [some (.ref 104), some (.int y)]) (by decide +kernel) (Nat.le_of_ble_eq_true rfl) rfl (Nat.le_refl _) (Nat.le_refl _) ?_
  have hcm := hw.1.2.1
  have hB2 := h.1.2.1
  refine X_iload_n (nx := 1) dX8_matched_0 rfl rfl rfl ?_
  refine Y_Si1 (nx := 4) dX8_matched_1 rfl ml_RX8_243 kj_X8_isVerb ks_X8_isVerb (sp_X8_isVerb) (by first | decide | omega) (by exact Nat.le_of_ble_eq_true rfl) ?_
  refine X_if_eq (tgt := 15) (nx := 7) dX8_matched_4 rfl rfl (fun h4 => ?_) (fun h4 => ?_)
  · skip
    have n4 := nb h4
    refine X_aload_n (nx := 16) dX8_matched_15 rfl rfl rfl ?_
    refine X_bipush (v := -2) (nx := 18) dX8_matched_16 rfl rfl ?_
    refine Y_Vi1 (nx := 21) dX8_matched_18 rfl ml_RX8_211 kj_X8_no kv_X8_no (sp_X8_no (k := 2) rfl (by omega) (by omega)) (by first | assumption | rfl | decide | omega) (by first | assumption | rfl | decide | omega) (by decide) rfl (by first | decide | omega) (by exact Nat.le_of_ble_eq_true rfl) ?_
    exact Z_reti dX8_matched_21 (Or.inl rfl) (by unfold m_matched; first | (rw [if_neg n4]; exact ck2_no (k := 2) h Fr.rf (by omega) (by omega)) | (rw [if_pos c4, k4]; exact ck2_s g9.1 g9.2.1 (SCR.fr g9.2.2.1)))
  · skip
    have c4 := b2i_t.mp h4
    obtain ⟨v, hv, rfl⟩ := ex_nI (N := 4) (n := 4) rfl (by decide) (of_decide_eq_true c4)
    have k4 : (nI v).toNatClampNeg = v := nI_clamp (by omega)
    refine X_aload_n (nx := 8) dX8_matched_7 rfl rfl rfl ?_
    refine X_iload_n (nx := 9) dX8_matched_8 rfl rfl rfl ?_
    refine Z_Vi1 (nx := 12) dX8_matched_9 rfl ml_RX8_329 kj_X8_matchedBy kv_X8_matchedBy (sp_X8_matchedBy hw hw.1.1 tle hv h rfl) (by first | assumption | rfl | decide | omega) (by first | assumption | rfl | decide | omega) (by decide) rfl (by first | decide | omega) (by exact Nat.le_of_ble_eq_true rfl) (fun u9 D9 g9 => ?_)
    refine X_goto (tgt := 21) dX8_matched_12 rfl ?_
    exact Z_reti dX8_matched_21 (Or.inl rfl) (by unfold m_matched; first | (rw [if_neg n4]; exact ck2_no (k := 2) h Fr.rf (by omega) (by omega)) | (rw [if_pos c4, k4]; exact ck2_s g9.1 g9.2.1 (SCR.fr g9.2.2.1)))
theorem opn_inv {D D' : Mem} {S : St} {T : Nat → Bool} {K F : Nat → Nat} (h : INVT D S T K F) (hw : WF S) (g : Fq SOP D D') : INVT D' S T K F ∧ Fr inR D D' := scr_inv h hw (g.mono (fun b i q => by unfold SOP at q; unfold SCR; omega))
theorem dX8_letterOf_0 : decode cX8_letterOf 0 = .ok (.iload_n 1, 1) := by decide +kernel
theorem dX8_letterOf_1 : decode cX8_letterOf 1 = .ok (.invokestatic 308, 3) := by decide +kernel
theorem dX8_letterOf_4 : decode cX8_letterOf 4 = .ok (.ifCond .ne 9, 3) := by decide +kernel
theorem dX8_letterOf_7 : decode cX8_letterOf 7 = .ok (.aload_n 0, 1) := by decide +kernel
theorem dX8_letterOf_8 : decode cX8_letterOf 8 = .ok (.iconst (-1), 1) := by decide +kernel
theorem dX8_letterOf_9 : decode cX8_letterOf 9 = .ok (.invokevirtual 211, 3) := by decide +kernel
theorem dX8_letterOf_12 : decode cX8_letterOf 12 = .ok (.ireturn, 1) := by decide +kernel
theorem dX8_letterOf_13 : decode cX8_letterOf 13 = .ok (.aload_n 0, 1) := by decide +kernel
theorem dX8_letterOf_14 : decode cX8_letterOf 14 = .ok (.iload_n 1, 1) := by decide +kernel
theorem dX8_letterOf_15 : decode cX8_letterOf 15 = .ok (.invokevirtual 195, 3) := by decide +kernel
theorem dX8_letterOf_18 : decode cX8_letterOf 18 = .ok (.iload_n 2, 1) := by decide +kernel
theorem dX8_letterOf_19 : decode cX8_letterOf 19 = .ok (.iconst (-1), 1) := by decide +kernel
theorem dX8_letterOf_20 : decode cX8_letterOf 20 = .ok (.if_icmp .ne 10, 3) := by decide +kernel
theorem dX8_letterOf_23 : decode cX8_letterOf 23 = .ok (.aload_n 0, 1) := by decide +kernel
theorem dX8_letterOf_24 : decode cX8_letterOf 24 = .ok (.getfield 134, 3) := by decide +kernel
theorem dX8_letterOf_27 : decode cX8_letterOf 27 = .ok (.goto 31, 3) := by decide +kernel
theorem dX8_letterOf_30 : decode cX8_letterOf 30 = .ok (.iload_n 2, 1) := by decide +kernel
theorem dX8_letterOf_31 : decode cX8_letterOf 31 = .ok (.iconst 0, 1) := by decide +kernel
theorem dX8_letterOf_32 : decode cX8_letterOf 32 = .ok (.aload_n 0, 1) := by decide +kernel
theorem dX8_letterOf_33 : decode cX8_letterOf 33 = .ok (.getfield 134, 3) := by decide +kernel
theorem dX8_letterOf_36 : decode cX8_letterOf 36 = .ok (.iconst 1, 1) := by decide +kernel
theorem dX8_letterOf_37 : decode cX8_letterOf 37 = .ok (.isub, 1) := by decide +kernel
theorem dX8_letterOf_38 : decode cX8_letterOf 38 = .ok (.invokestatic 115, 3) := by decide +kernel
theorem dX8_letterOf_41 : decode cX8_letterOf 41 = .ok (.ifCond .eq 12, 3) := by decide +kernel
theorem dX8_letterOf_44 : decode cX8_letterOf 44 = .ok (.aload_n 0, 1) := by decide +kernel
theorem dX8_letterOf_45 : decode cX8_letterOf 45 = .ok (.getfield 37, 3) := by decide +kernel
theorem dX8_letterOf_48 : decode cX8_letterOf 48 = .ok (.iload_n 2, 1) := by decide +kernel
theorem dX8_letterOf_49 : decode cX8_letterOf 49 = .ok (.iaload, 1) := by decide +kernel
theorem dX8_letterOf_50 : decode cX8_letterOf 50 = .ok (.goto 8, 3) := by decide +kernel
theorem dX8_letterOf_53 : decode cX8_letterOf 53 = .ok (.aload_n 0, 1) := by decide +kernel
theorem dX8_letterOf_54 : decode cX8_letterOf 54 = .ok (.iconst (-1), 1) := by decide +kernel
theorem dX8_letterOf_55 : decode cX8_letterOf 55 = .ok (.invokevirtual 211, 3) := by decide +kernel
theorem dX8_letterOf_58 : decode cX8_letterOf 58 = .ok (.ireturn, 1) := by decide +kernel
theorem sp_X8_letterOf {x y : Int32} {S : St} {D : Mem} (h : INV2 D S) (hw : WF S) : Rix 3 j_X8_letterOf [.ref 104, .int x, .int y] D (fun u D' => CK2 D (m_letterOf S x y) u D') := by
  refine E.start 0 (ls := [some (.ref 104), some (.int x), some (.int y)]) (by decide +kernel) (Nat.le_of_ble_eq_true rfl) rfl (Nat.le_refl _) (Nat.le_refl _) ?_
  have hcm := hw.1.2.1
  have hB2 := h.1.2.1
  refine X_iload_n (nx := 1) dX8_letterOf_0 rfl rfl rfl ?_
  refine Y_Si1 (nx := 4) dX8_letterOf_1 rfl ml_RX8_308 kj_X8_isPath ks_X8_isPath (sp_X8_isPath) (by first | decide | omega) (by exact Nat.le_of_ble_eq_true rfl) ?_
  refine X_if_ne (tgt := 13) (nx := 7) dX8_letterOf_4 rfl rfl (fun h4 => ?_) (fun h4 => ?_)
  · skip
    have c4 := b2i_t.mp h4
    obtain ⟨p, hp, rfl⟩ := ex_nI (N := 341) (n := 341) rfl (by decide) (of_decide_eq_true c4)
    have k4 : (nI p).toNatClampNeg = p := nI_clamp (by omega)
    refine X_aload_n (nx := 14) dX8_letterOf_13 rfl rfl rfl ?_
    refine X_iload_n (nx := 15) dX8_letterOf_14 rfl rfl rfl ?_
    refine Z_Vv1 (nx := 18) dX8_letterOf_15 rfl ml_RX8_195 kj_X8_opens kv_X8_opens (sp_X8_opens rfl hp) (by first | assumption | rfl | decide | omega) (by first | assumption | rfl | decide | omega) (by decide) rfl (by first | decide | omega) (by exact Nat.le_of_ble_eq_true rfl) (fun D15 g15 => ?_)
    refine X_iload_n (nx := 19) dX8_letterOf_18 rfl rfl rfl ?_
    refine X_iconst (v := -1) (nx := 20) dX8_letterOf_19 rfl rfl ?_
    refine X_icmp_ne (tgt := 30) (nx := 23) dX8_letterOf_20 rfl rfl (fun h20 => ?_) (fun h20 => ?_)
    · skip
      refine X_iload_n (nx := 31) dX8_letterOf_30 rfl rfl rfl ?_
      refine X_iconst (v := 0) (nx := 32) dX8_letterOf_31 rfl rfl ?_
      refine X_aload_n (nx := 33) dX8_letterOf_32 rfl rfl rfl ?_
      refine M_getI (nx := 36) dX8_letterOf_33 rfl fl_RX8_134 rfl (by first | assumption | rfl | decide | omega) (by first | assumption | rfl | decide | omega) ?_
      refine X_top (g15.1.1) ?_
      refine X_iconst (v := 1) (nx := 37) dX8_letterOf_36 rfl rfl ?_
      refine X_isub (nx := 38) dX8_letterOf_37 rfl ?_
      refine Y_Si3 (nx := 41) dX8_letterOf_38 rfl ml_RX8_115 kj_X8_isIn ks_X8_isIn (sp_X8_isIn) (by first | decide | omega) (by exact Nat.le_of_ble_eq_true rfl) ?_
      refine X_top (congrArg b2i (d_cm (by have := g15.1.2.2.1; omega))) ?_
      refine X_if_eq (tgt := 53) (nx := 44) dX8_letterOf_41 rfl rfl (fun h41 => ?_) (fun h41 => ?_)
      · skip
        have n41 := nb h41
        refine X_aload_n (nx := 54) dX8_letterOf_53 rfl rfl rfl ?_
        refine X_iconst (v := -1) (nx := 55) dX8_letterOf_54 rfl rfl ?_
        refine Y_Vi1 (nx := 58) dX8_letterOf_55 rfl ml_RX8_211 kj_X8_no kv_X8_no (sp_X8_no (k := 1) rfl (by omega) (by omega)) (by first | assumption | rfl | decide | omega) (by first | assumption | rfl | decide | omega) (by decide) rfl (by first | decide | omega) (by exact Nat.le_of_ble_eq_true rfl) ?_
        exact Z_reti dX8_letterOf_58 (Or.inl rfl) (by
          have hv := opn_inv h hw g15.2
          unfold m_letterOf
          rw [if_pos c4, k4]
          first
          | (rw [if_pos h20]; exact ck2_s rfl hv.1 hv.2)
          | (rw [if_neg h20, if_pos (of_decide_eq_true c41), ki]; exact ck2_s rfl hv.1 hv.2)
          | (rw [if_neg h20, if_neg (fun q => n41 (decide_eq_true q))]; exact ck2_no (k := 1) hv.1 hv.2 (by omega) (by omega)))
      · skip
        have c41 := b2i_t.mp h41
        obtain ⟨i, hi, rfl⟩ := ex_nI (x := y) rfl (by have := g15.1.2.2.1; omega) (of_decide_eq_true c41)
        have ki : (nI i).toNatClampNeg = i := nI_clamp (by have := g15.1.2.2.1; omega)
        refine X_aload_n (nx := 45) dX8_letterOf_44 rfl rfl rfl ?_
        refine M_getP (nx := 48) dX8_letterOf_45 rfl fl_RX8_37 rfl (by first | assumption | rfl | decide | omega) (by first | assumption | rfl | decide | omega) (by first | assumption | rfl | decide | omega) ?_
        refine X_iload_n (nx := 49) dX8_letterOf_48 rfl rfl rfl ?_
        refine M_ld (a := 114) (L := 4) (nx := 50) dX8_letterOf_49 rfl (by decide) (by decide) rfl (by decide) (by have := g15.1.2.2.1; omega) (g15.1.2.1 i hi) ?_
        refine X_goto (tgt := 58) dX8_letterOf_50 rfl ?_
        exact Z_reti dX8_letterOf_58 (Or.inl rfl) (by
          have hv := opn_inv h hw g15.2
          unfold m_letterOf
          rw [if_pos c4, k4]
          first
          | (rw [if_pos h20]; exact ck2_s rfl hv.1 hv.2)
          | (rw [if_neg h20, if_pos (of_decide_eq_true c41), ki]; exact ck2_s rfl hv.1 hv.2)
          | (rw [if_neg h20, if_neg (fun q => n41 (decide_eq_true q))]; exact ck2_no (k := 1) hv.1 hv.2 (by omega) (by omega)))
    · skip
      refine X_aload_n (nx := 24) dX8_letterOf_23 rfl rfl rfl ?_
      refine M_getI (nx := 27) dX8_letterOf_24 rfl fl_RX8_134 rfl (by first | assumption | rfl | decide | omega) (by first | assumption | rfl | decide | omega) ?_
      refine X_top (g15.1.1) ?_
      refine X_goto (tgt := 58) dX8_letterOf_27 rfl ?_
      exact Z_reti dX8_letterOf_58 (Or.inl rfl) (by
        have hv := opn_inv h hw g15.2
        unfold m_letterOf
        rw [if_pos c4, k4]
        first
        | (rw [if_pos h20]; exact ck2_s rfl hv.1 hv.2)
        | (rw [if_neg h20, if_pos (of_decide_eq_true c41), ki]; exact ck2_s rfl hv.1 hv.2)
        | (rw [if_neg h20, if_neg (fun q => n41 (decide_eq_true q))]; exact ck2_no (k := 1) hv.1 hv.2 (by omega) (by omega)))
  · skip
    have n4 := nb h4
    refine X_aload_n (nx := 8) dX8_letterOf_7 rfl rfl rfl ?_
    refine X_iconst (v := -1) (nx := 9) dX8_letterOf_8 rfl rfl ?_
    refine Y_Vi1 (nx := 12) dX8_letterOf_9 rfl ml_RX8_211 kj_X8_no kv_X8_no (sp_X8_no (k := 1) rfl (by omega) (by omega)) (by first | assumption | rfl | decide | omega) (by first | assumption | rfl | decide | omega) (by decide) rfl (by first | decide | omega) (by exact Nat.le_of_ble_eq_true rfl) ?_
    exact Z_reti dX8_letterOf_12 (Or.inl rfl) (by unfold m_letterOf; rw [if_neg n4]; exact ck2_no (k := 1) h Fr.rf (by omega) (by omega))
theorem dX8_segment_0 : decode cX8_segment 0 = .ok (.aload_n 0, 1) := by decide +kernel
theorem dX8_segment_1 : decode cX8_segment 1 = .ok (.iload_n 1, 1) := by decide +kernel
theorem dX8_segment_2 : decode cX8_segment 2 = .ok (.invokevirtual 254, 3) := by decide +kernel
theorem dX8_segment_5 : decode cX8_segment 5 = .ok (.ifCond .eq 32, 3) := by decide +kernel
theorem dX8_segment_8 : decode cX8_segment 8 = .ok (.iload_n 2, 1) := by decide +kernel
theorem dX8_segment_9 : decode cX8_segment 9 = .ok (.iconst 0, 1) := by decide +kernel
theorem dX8_segment_10 : decode cX8_segment 10 = .ok (.aload_n 0, 1) := by decide +kernel
theorem dX8_segment_11 : decode cX8_segment 11 = .ok (.getfield 31, 3) := by decide +kernel
theorem dX8_segment_14 : decode cX8_segment 14 = .ok (.iload_n 1, 1) := by decide +kernel
theorem dX8_segment_15 : decode cX8_segment 15 = .ok (.iaload, 1) := by decide +kernel
theorem dX8_segment_16 : decode cX8_segment 16 = .ok (.iconst 1, 1) := by decide +kernel
theorem dX8_segment_17 : decode cX8_segment 17 = .ok (.isub, 1) := by decide +kernel
theorem dX8_segment_18 : decode cX8_segment 18 = .ok (.invokestatic 115, 3) := by decide +kernel
theorem dX8_segment_21 : decode cX8_segment 21 = .ok (.ifCond .eq 16, 3) := by decide +kernel
theorem dX8_segment_24 : decode cX8_segment 24 = .ok (.aload_n 0, 1) := by decide +kernel
theorem dX8_segment_25 : decode cX8_segment 25 = .ok (.getfield 34, 3) := by decide +kernel
theorem dX8_segment_28 : decode cX8_segment 28 = .ok (.iconst 4, 1) := by decide +kernel
theorem dX8_segment_29 : decode cX8_segment 29 = .ok (.iload_n 1, 1) := by decide +kernel
theorem dX8_segment_30 : decode cX8_segment 30 = .ok (.imul, 1) := by decide +kernel
theorem dX8_segment_31 : decode cX8_segment 31 = .ok (.iload_n 2, 1) := by decide +kernel
theorem dX8_segment_32 : decode cX8_segment 32 = .ok (.iadd, 1) := by decide +kernel
theorem dX8_segment_33 : decode cX8_segment 33 = .ok (.iaload, 1) := by decide +kernel
theorem dX8_segment_34 : decode cX8_segment 34 = .ok (.goto 8, 3) := by decide +kernel
theorem dX8_segment_37 : decode cX8_segment 37 = .ok (.aload_n 0, 1) := by decide +kernel
theorem dX8_segment_38 : decode cX8_segment 38 = .ok (.iconst (-1), 1) := by decide +kernel
theorem dX8_segment_39 : decode cX8_segment 39 = .ok (.invokevirtual 211, 3) := by decide +kernel
theorem dX8_segment_42 : decode cX8_segment 42 = .ok (.ireturn, 1) := by decide +kernel
theorem sp_X8_segment {x y : Int32} {S : St} {D : Mem} (h : INV2 D S) (hw : WF S) : Rix 3 j_X8_segment [.ref 104, .int x, .int y] D (fun u D' => CK2 D (m_segment S x y) u D') := by
  refine E.start 0 (ls := [some (.ref 104), some (.int x), some (.int y)]) (by decide +kernel) (Nat.le_of_ble_eq_true rfl) rfl (Nat.le_refl _) (Nat.le_refl _) ?_
  have hcm := hw.1.2.1
  have hB2 := h.1.2.1
  refine X_aload_n (nx := 1) dX8_segment_0 rfl rfl rfl ?_
  refine X_iload_n (nx := 2) dX8_segment_1 rfl rfl rfl ?_
  refine Y_Vi1 (nx := 5) dX8_segment_2 rfl ml_RX8_254 kj_X8_isRoute kv_X8_isRoute (sp_X8_isRoute h.1 hw.1) (by first | assumption | rfl | decide | omega) (by first | assumption | rfl | decide | omega) (by decide) rfl (by first | decide | omega) (by exact Nat.le_of_ble_eq_true rfl) ?_
  refine X_top (show _ = b2i (isTh (bk S) x) from rfl) ?_
  refine X_if_eq (tgt := 37) (nx := 8) dX8_segment_5 rfl rfl (fun h5 => ?_) (fun h5 => ?_)
  · skip
    have n5 := nb h5
    refine X_aload_n (nx := 38) dX8_segment_37 rfl rfl rfl ?_
    refine X_iconst (v := -1) (nx := 39) dX8_segment_38 rfl rfl ?_
    refine Y_Vi1 (nx := 42) dX8_segment_39 rfl ml_RX8_211 kj_X8_no kv_X8_no (sp_X8_no (k := 1) rfl (by omega) (by omega)) (by first | assumption | rfl | decide | omega) (by first | assumption | rfl | decide | omega) (by decide) rfl (by first | decide | omega) (by exact Nat.le_of_ble_eq_true rfl) ?_
    exact Z_reti dX8_segment_42 (Or.inl rfl) (by
      unfold m_segment
      first
      | (rw [if_neg n5]; exact ck2_no (k := 1) h Fr.rf (by omega) (by omega))
      | (rw [if_pos c5, k5, if_pos (of_decide_eq_true c21), ki]; exact ck2_s rfl h Fr.rf)
      | (rw [if_pos c5, k5, if_neg (fun q => n21 (decide_eq_true q))]; exact ck2_no (k := 1) h Fr.rf (by omega) (by omega)))
  · skip
    have c5 := b2i_t.mp h5
    obtain ⟨r, hr, rfl, tr⟩ := isTh_t hcm c5
    have k5 : (nI r).toNatClampNeg = r := nI_clamp (by omega)
    refine X_iload_n (nx := 9) dX8_segment_8 rfl rfl rfl ?_
    refine X_iconst (v := 0) (nx := 10) dX8_segment_9 rfl rfl ?_
    refine X_aload_n (nx := 11) dX8_segment_10 rfl rfl rfl ?_
    refine M_getP (nx := 14) dX8_segment_11 rfl fl_RX8_31 rfl (by first | assumption | rfl | decide | omega) (by first | assumption | rfl | decide | omega) (by first | assumption | rfl | decide | omega) ?_
    refine X_iload_n (nx := 15) dX8_segment_14 rfl rfl rfl ?_
    refine M_ld (a := 112) (L := 10) (nx := 16) dX8_segment_15 rfl (by decide) (by decide) rfl (by decide) (by omega) ((h.1.2.2 r hr).2.2.2.2.1) ?_
    refine X_iconst (v := 1) (nx := 17) dX8_segment_16 rfl rfl ?_
    refine X_isub (nx := 18) dX8_segment_17 rfl ?_
    refine Y_Si3 (nx := 21) dX8_segment_18 rfl ml_RX8_115 kj_X8_isIn ks_X8_isIn (sp_X8_isIn) (by first | decide | omega) (by exact Nat.le_of_ble_eq_true rfl) ?_
    refine X_top (congrArg b2i (d_cm (by have := sgl_le hw.1 hr; omega))) ?_
    refine X_if_eq (tgt := 37) (nx := 24) dX8_segment_21 rfl rfl (fun h21 => ?_) (fun h21 => ?_)
    · skip
      have n21 := nb h21
      refine X_aload_n (nx := 38) dX8_segment_37 rfl rfl rfl ?_
      refine X_iconst (v := -1) (nx := 39) dX8_segment_38 rfl rfl ?_
      refine Y_Vi1 (nx := 42) dX8_segment_39 rfl ml_RX8_211 kj_X8_no kv_X8_no (sp_X8_no (k := 1) rfl (by omega) (by omega)) (by first | assumption | rfl | decide | omega) (by first | assumption | rfl | decide | omega) (by decide) rfl (by first | decide | omega) (by exact Nat.le_of_ble_eq_true rfl) ?_
      exact Z_reti dX8_segment_42 (Or.inl rfl) (by
        unfold m_segment
        first
        | (rw [if_neg n5]; exact ck2_no (k := 1) h Fr.rf (by omega) (by omega))
        | (rw [if_pos c5, k5, if_pos (of_decide_eq_true c21), ki]; exact ck2_s rfl h Fr.rf)
        | (rw [if_pos c5, k5, if_neg (fun q => n21 (decide_eq_true q))]; exact ck2_no (k := 1) h Fr.rf (by omega) (by omega)))
    · skip
      have c21 := b2i_t.mp h21
      obtain ⟨i, hi, rfl⟩ := ex_nI (x := y) rfl (by have := sgl_le hw.1 hr; omega) (of_decide_eq_true c21)
      have ki : (nI i).toNatClampNeg = i := nI_clamp (by have := sgl_le hw.1 hr; omega)
      have hl4 := sgl_le hw.1 hr
      refine X_aload_n (nx := 25) dX8_segment_24 rfl rfl rfl ?_
      refine M_getP (nx := 28) dX8_segment_25 rfl fl_RX8_34 rfl (by first | assumption | rfl | decide | omega) (by first | assumption | rfl | decide | omega) (by first | assumption | rfl | decide | omega) ?_
      refine X_iconst (v := nI 4) (nx := 29) dX8_segment_28 rfl rfl ?_
      refine X_iload_n (nx := 30) dX8_segment_29 rfl rfl rfl ?_
      refine X_imul (nx := 31) dX8_segment_30 rfl ?_
      refine X_top (mul_nI) ?_
      refine X_iload_n (nx := 32) dX8_segment_31 rfl rfl rfl ?_
      refine X_iadd (nx := 33) dX8_segment_32 rfl ?_
      refine X_top (nI_add _ _) ?_
      refine M_ld (a := 113) (L := 40) (nx := 34) dX8_segment_33 rfl (by decide) (by decide) rfl (by decide) (by omega) ((h.1.2.2 r hr).2.2.2.2.2 i hi) ?_
      refine X_goto (tgt := 42) dX8_segment_34 rfl ?_
      exact Z_reti dX8_segment_42 (Or.inl rfl) (by
        unfold m_segment
        first
        | (rw [if_neg n5]; exact ck2_no (k := 1) h Fr.rf (by omega) (by omega))
        | (rw [if_pos c5, k5, if_pos (of_decide_eq_true c21), ki]; exact ck2_s rfl h Fr.rf)
        | (rw [if_pos c5, k5, if_neg (fun q => n21 (decide_eq_true q))]; exact ck2_no (k := 1) h Fr.rf (by omega) (by omega)))
