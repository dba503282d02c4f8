/-! THE REFERENCE: count, witness, clash -/
theorem dX8_count_0 : decode cX8_count 0 = .ok (.iload_n 1, 1) := by decide +kernel
theorem dX8_count_1 : decode cX8_count 1 = .ok (.bipush 11, 2) := by decide +kernel
theorem dX8_count_3 : decode cX8_count 3 = .ok (.bipush 16, 2) := by decide +kernel
theorem dX8_count_5 : decode cX8_count 5 = .ok (.invokestatic 115, 3) := by decide +kernel
theorem dX8_count_8 : decode cX8_count 8 = .ok (.ifCond .eq 13, 3) := by decide +kernel
theorem dX8_count_11 : decode cX8_count 11 = .ok (.aload_n 0, 1) := by decide +kernel
theorem dX8_count_12 : decode cX8_count 12 = .ok (.getfield 7, 3) := by decide +kernel
theorem dX8_count_15 : decode cX8_count 15 = .ok (.iload_n 1, 1) := by decide +kernel
theorem dX8_count_16 : decode cX8_count 16 = .ok (.bipush 10, 2) := by decide +kernel
theorem dX8_count_18 : decode cX8_count 18 = .ok (.isub, 1) := by decide +kernel
theorem dX8_count_19 : decode cX8_count 19 = .ok (.iaload, 1) := by decide +kernel
theorem dX8_count_20 : decode cX8_count 20 = .ok (.ireturn, 1) := by decide +kernel
theorem dX8_count_21 : decode cX8_count 21 = .ok (.iload_n 1, 1) := by decide +kernel
theorem dX8_count_22 : decode cX8_count 22 = .ok (.tableswitch 90 0 6 #[42, 47, 52, 57, 62, 80, 85], 42) := by decide +kernel
theorem dX8_count_64 : decode cX8_count 64 = .ok (.aload_n 0, 1) := by decide +kernel
theorem dX8_count_65 : decode cX8_count 65 = .ok (.getfield 109, 3) := by decide +kernel
theorem dX8_count_68 : decode cX8_count 68 = .ok (.ireturn, 1) := by decide +kernel
theorem dX8_count_69 : decode cX8_count 69 = .ok (.aload_n 0, 1) := by decide +kernel
theorem dX8_count_70 : decode cX8_count 70 = .ok (.invokevirtual 290, 3) := by decide +kernel
theorem dX8_count_73 : decode cX8_count 73 = .ok (.ireturn, 1) := by decide +kernel
theorem dX8_count_74 : decode cX8_count 74 = .ok (.aload_n 0, 1) := by decide +kernel
theorem dX8_count_75 : decode cX8_count 75 = .ok (.invokevirtual 392, 3) := by decide +kernel
theorem dX8_count_78 : decode cX8_count 78 = .ok (.ireturn, 1) := by decide +kernel
theorem dX8_count_79 : decode cX8_count 79 = .ok (.aload_n 0, 1) := by decide +kernel
theorem dX8_count_80 : decode cX8_count 80 = .ok (.invokevirtual 395, 3) := by decide +kernel
theorem dX8_count_83 : decode cX8_count 83 = .ok (.ireturn, 1) := by decide +kernel
theorem dX8_count_84 : decode cX8_count 84 = .ok (.aload_n 0, 1) := by decide +kernel
theorem dX8_count_85 : decode cX8_count 85 = .ok (.iconst 0, 1) := by decide +kernel
theorem dX8_count_86 : decode cX8_count 86 = .ok (.invokevirtual 305, 3) := by decide +kernel
theorem dX8_count_89 : decode cX8_count 89 = .ok (.aload_n 0, 1) := by decide +kernel
theorem dX8_count_90 : decode cX8_count 90 = .ok (.iconst 1, 1) := by decide +kernel
theorem dX8_count_91 : decode cX8_count 91 = .ok (.invokevirtual 305, 3) := by decide +kernel
theorem dX8_count_94 : decode cX8_count 94 = .ok (.iadd, 1) := by decide +kernel
theorem dX8_count_95 : decode cX8_count 95 = .ok (.aload_n 0, 1) := by decide +kernel
theorem dX8_count_96 : decode cX8_count 96 = .ok (.iconst 2, 1) := by decide +kernel
theorem dX8_count_97 : decode cX8_count 97 = .ok (.invokevirtual 305, 3) := by decide +kernel
theorem dX8_count_100 : decode cX8_count 100 = .ok (.iadd, 1) := by decide +kernel
theorem dX8_count_101 : decode cX8_count 101 = .ok (.ireturn, 1) := by decide +kernel
theorem dX8_count_102 : decode cX8_count 102 = .ok (.aload_n 0, 1) := by decide +kernel
theorem dX8_count_103 : decode cX8_count 103 = .ok (.getfield 377, 3) := by decide +kernel
theorem dX8_count_106 : decode cX8_count 106 = .ok (.ireturn, 1) := by decide +kernel
theorem dX8_count_107 : decode cX8_count 107 = .ok (.aload_n 0, 1) := by decide +kernel
theorem dX8_count_108 : decode cX8_count 108 = .ok (.getfield 208, 3) := by decide +kernel
theorem dX8_count_111 : decode cX8_count 111 = .ok (.ireturn, 1) := by decide +kernel
theorem dX8_count_112 : decode cX8_count 112 = .ok (.bipush (-9), 2) := by decide +kernel
theorem dX8_count_114 : decode cX8_count 114 = .ok (.ireturn, 1) := by decide +kernel
theorem cnt_ne {y : Int32} (h : 11 ≤ y) : ¬ y = 0 ∧ ¬ y = 1 ∧ ¬ y = 2 ∧ ¬ y = 3 ∧ ¬ y = 4 ∧ ¬ y = 5 ∧ ¬ y = 6 := by
  refine ⟨?_, ?_, ?_, ?_, ?_, ?_, ?_⟩ <;> (intro e; subst e; exact absurd h (by decide))
theorem sp_X8_count {y : Int32} {S : St} {D : Mem} (h : INV2 D S) (hw : WF S) : Rix 5 j_X8_count [.ref 104, .int y] D (fun u D' => CK2 D (m_count S y) u D') := by
  refine E.start 0 (ls := [some (.ref 104), some (.int y)]) (by decide +kernel) (Nat.le_of_ble_eq_true rfl) rfl (Nat.le_refl _) (Nat.le_refl _) ?_
  have hcm := hw.1.2.1
  have hB2 := h.1.2.1
  refine X_iload_n (nx := 1) dX8_count_0 rfl rfl rfl ?_
  refine X_bipush (v := 11) (nx := 3) dX8_count_1 rfl rfl ?_
  refine X_bipush (v := 16) (nx := 5) dX8_count_3 rfl rfl ?_
  refine Y_Si3 (nx := 8) dX8_count_5 rfl ml_RX8_115 kj_X8_isIn ks_X8_isIn (sp_X8_isIn) (by first | decide | omega) (by exact Nat.le_of_ble_eq_true rfl) ?_
  refine X_if_eq (tgt := 21) (nx := 11) dX8_count_8 rfl rfl (fun h8 => ?_) (fun h8 => ?_)
  · skip
    have n8 := nb h8
    refine X_iload_n (nx := 22) dX8_count_21 rfl rfl rfl ?_
    obtain rfl | rfl | rfl | rfl | rfl | rfl | rfl | ⟨y0, y1, y2, y3, y4, y5, y6, yo⟩ := out7 y
    · skip
      refine X_tableIn (tgt := 64) (off := 42) dX8_count_22 (by decide) (by decide) (by decide) rfl ?_
      refine X_aload_n (nx := 65) dX8_count_64 rfl rfl rfl ?_
      refine M_getI (nx := 68) dX8_count_65 rfl fl_RX8_109 rfl (by first | assumption | rfl | decide | omega) (by first | assumption | rfl | decide | omega) ?_
      exact Z_reti dX8_count_68 (Or.inl rfl) (ck2_s h.1.2.1 h Fr.rf)
    · skip
      refine X_tableIn (tgt := 69) (off := 47) dX8_count_22 (by decide) (by decide) (by decide) rfl ?_
      refine X_aload_n (nx := 70) dX8_count_69 rfl rfl rfl ?_
      refine Y_Vi0 (nx := 73) dX8_count_70 rfl ml_RX8_290 kj_X8_setThere kv_X8_setThere (sp_X8_setThere h.1 hw.1) (by first | assumption | rfl | decide | omega) (by first | assumption | rfl | decide | omega) (by decide) rfl (by first | decide | omega) (by exact Nat.le_of_ble_eq_true rfl) ?_
      exact Z_reti dX8_count_73 (Or.inl rfl) (ck2_s rfl h Fr.rf)
    · skip
      refine X_tableIn (tgt := 74) (off := 52) dX8_count_22 (by decide) (by decide) (by decide) rfl ?_
      refine X_aload_n (nx := 75) dX8_count_74 rfl rfl rfl ?_
      refine Y_Vi0 (nx := 78) dX8_count_75 rfl ml_RX8_392 kj_X8_setMounts kv_X8_setMounts (sp_X8_setMounts h.1 hw.1) (by first | assumption | rfl | decide | omega) (by first | assumption | rfl | decide | omega) (by decide) rfl (by first | decide | omega) (by exact Nat.le_of_ble_eq_true rfl) ?_
      exact Z_reti dX8_count_78 (Or.inl rfl) (ck2_s (congrArg nI (smP_mkn hw.1)) h Fr.rf)
    · skip
      refine X_tableIn (tgt := 79) (off := 57) dX8_count_22 (by decide) (by decide) (by decide) rfl ?_
      refine X_aload_n (nx := 80) dX8_count_79 rfl rfl rfl ?_
      refine Y_Vi0 (nx := 83) dX8_count_80 rfl ml_RX8_395 kj_X8_allSegments kv_X8_allSegments (sp_X8_allSegments h.1 hw.1) (by first | assumption | rfl | decide | omega) (by first | assumption | rfl | decide | omega) (by decide) rfl (by first | decide | omega) (by exact Nat.le_of_ble_eq_true rfl) ?_
      exact Z_reti dX8_count_83 (Or.inl rfl) (ck2_s (congrArg nI (asF_sum hw.1)) h Fr.rf)
    · skip
      refine X_tableIn (tgt := 84) (off := 62) dX8_count_22 (by decide) (by decide) (by decide) rfl ?_
      refine X_aload_n (nx := 85) dX8_count_84 rfl rfl rfl ?_
      refine X_iconst (v := 0) (nx := 86) dX8_count_85 rfl rfl ?_
      refine Y_Vi1 (nx := 89) dX8_count_86 rfl ml_RX8_305 kj_X8_nodesOf kv_X8_nodesOf (sp_X8_nodesOf (R := 0) h.1 hw.1 rfl (by omega)) (by first | assumption | rfl | decide | omega) (by first | assumption | rfl | decide | omega) (by decide) rfl (by first | decide | omega) (by exact Nat.le_of_ble_eq_true rfl) ?_
      refine X_aload_n (nx := 90) dX8_count_89 rfl rfl rfl ?_
      refine X_iconst (v := 1) (nx := 91) dX8_count_90 rfl rfl ?_
      refine Y_Vi1 (nx := 94) dX8_count_91 rfl ml_RX8_305 kj_X8_nodesOf kv_X8_nodesOf (sp_X8_nodesOf (R := 1) h.1 hw.1 rfl (by omega)) (by first | assumption | rfl | decide | omega) (by first | assumption | rfl | decide | omega) (by decide) rfl (by first | decide | omega) (by exact Nat.le_of_ble_eq_true rfl) ?_
      refine X_iadd (nx := 95) dX8_count_94 rfl ?_
      refine X_top (nI_add _ _) ?_
      refine X_aload_n (nx := 96) dX8_count_95 rfl rfl rfl ?_
      refine X_iconst (v := 2) (nx := 97) dX8_count_96 rfl rfl ?_
      refine Y_Vi1 (nx := 100) dX8_count_97 rfl ml_RX8_305 kj_X8_nodesOf kv_X8_nodesOf (sp_X8_nodesOf (R := 2) h.1 hw.1 rfl (by omega)) (by first | assumption | rfl | decide | omega) (by first | assumption | rfl | decide | omega) (by decide) rfl (by first | decide | omega) (by exact Nat.le_of_ble_eq_true rfl) ?_
      refine X_iadd (nx := 101) dX8_count_100 rfl ?_
      refine X_top (nI_add _ _) ?_
      exact Z_reti dX8_count_101 (Or.inl rfl) (ck2_s (congrArg nI (by rw [nodes_eq hw.1 (by omega), nodes_eq hw.1 (by omega), nodes_eq hw.1 (by omega), ndc_cnL, ndc_cnL, ndc_cnL]; exact cnL_all (own_nlG hw.1 10))) h Fr.rf)
    · skip
      refine X_tableIn (tgt := 102) (off := 80) dX8_count_22 (by decide) (by decide) (by decide) rfl ?_
      refine X_aload_n (nx := 103) dX8_count_102 rfl rfl rfl ?_
      refine M_getI (nx := 106) dX8_count_103 rfl fl_RX8_377 rfl (by first | assumption | rfl | decide | omega) (by first | assumption | rfl | decide | omega) ?_
      exact Z_reti dX8_count_106 (Or.inl rfl) (ck2_s h.2.2.2.2.1 h Fr.rf)
    · skip
      refine X_tableIn (tgt := 107) (off := 85) dX8_count_22 (by decide) (by decide) (by decide) rfl ?_
      refine X_aload_n (nx := 108) dX8_count_107 rfl rfl rfl ?_
      refine M_getI (nx := 111) dX8_count_108 rfl fl_RX8_208 rfl (by first | assumption | rfl | decide | omega) (by first | assumption | rfl | decide | omega) ?_
      exact Z_reti dX8_count_111 (Or.inl rfl) (ck2_s h.2.2.1 h Fr.rf)
    · skip
      refine X_tableOut (tgt := 112) dX8_count_22 (yo) rfl ?_
      refine X_bipush (v := -9) (nx := 114) dX8_count_112 rfl rfl ?_
      exact Z_reti dX8_count_114 (Or.inl rfl) (by unfold m_count; rw [if_neg y0, if_neg y1, if_neg y2, if_neg y3, if_neg y4, if_neg y5, if_neg y6, if_neg (fun q => n8 (decide_eq_true q))]; exact ck2_s rfl h Fr.rf)
  · skip
    have c8 := b2i_t.mp h8
    obtain ⟨c81, c82⟩ := of_decide_eq_true c8
    obtain ⟨k, k1, k2, e10, e11⟩ := cnt_k c81 c82
    refine X_aload_n (nx := 12) dX8_count_11 rfl rfl rfl ?_
    refine M_getP (nx := 15) dX8_count_12 rfl fl_RX8_7 rfl (by first | assumption | rfl | decide | omega) (by first | assumption | rfl | decide | omega) (by first | assumption | rfl | decide | omega) ?_
    refine X_iload_n (nx := 16) dX8_count_15 rfl rfl rfl ?_
    refine X_bipush (v := 10) (nx := 18) dX8_count_16 rfl rfl ?_
    refine X_isub (nx := 19) dX8_count_18 rfl ?_
    refine X_top (e10) ?_
    refine M_ld (a := 105) (L := 7) (nx := 20) dX8_count_19 rfl (by decide) (by decide) rfl (by decide) (by omega) (h.2.2.2.2.2.2.1 k k1 k2) ?_
    exact Z_reti dX8_count_20 (Or.inl rfl) (by obtain ⟨a0, a1, a2, a3, a4, a5, a6⟩ := cnt_ne c81; unfold m_count; rw [if_neg a0, if_neg a1, if_neg a2, if_neg a3, if_neg a4, if_neg a5, if_neg a6, if_pos ⟨c81, c82⟩, e11]; exact ck2_s rfl h Fr.rf)
theorem dX8_takesLetter_0 : decode cX8_takesLetter 0 = .ok (.iload_n 1, 1) := by decide +kernel
theorem dX8_takesLetter_1 : decode cX8_takesLetter 1 = .ok (.iconst 4, 1) := by decide +kernel
theorem dX8_takesLetter_2 : decode cX8_takesLetter 2 = .ok (.if_icmp .ge 14, 3) := by decide +kernel
theorem dX8_takesLetter_5 : decode cX8_takesLetter 5 = .ok (.iload_n 1, 1) := by decide +kernel
theorem dX8_takesLetter_6 : decode cX8_takesLetter 6 = .ok (.iload_n 2, 1) := by decide +kernel
theorem dX8_takesLetter_7 : decode cX8_takesLetter 7 = .ok (.if_icmp .ne 7, 3) := by decide +kernel
theorem dX8_takesLetter_10 : decode cX8_takesLetter 10 = .ok (.iconst 1, 1) := by decide +kernel
theorem dX8_takesLetter_11 : decode cX8_takesLetter 11 = .ok (.goto 4, 3) := by decide +kernel
theorem dX8_takesLetter_14 : decode cX8_takesLetter 14 = .ok (.iconst 0, 1) := by decide +kernel
theorem dX8_takesLetter_15 : decode cX8_takesLetter 15 = .ok (.ireturn, 1) := by decide +kernel
theorem dX8_takesLetter_16 : decode cX8_takesLetter 16 = .ok (.iload_n 1, 1) := by decide +kernel
theorem dX8_takesLetter_17 : decode cX8_takesLetter 17 = .ok (.bipush 6, 2) := by decide +kernel
theorem dX8_takesLetter_19 : decode cX8_takesLetter 19 = .ok (.if_icmp .eq 17, 3) := by decide +kernel
theorem dX8_takesLetter_22 : decode cX8_takesLetter 22 = .ok (.iload_n 1, 1) := by decide +kernel
theorem dX8_takesLetter_23 : decode cX8_takesLetter 23 = .ok (.iload_n 2, 1) := by decide +kernel
theorem dX8_takesLetter_24 : decode cX8_takesLetter 24 = .ok (.iconst 2, 1) := by decide +kernel
theorem dX8_takesLetter_25 : decode cX8_takesLetter 25 = .ok (.if_icmp .ge 7, 3) := by decide +kernel
theorem dX8_takesLetter_28 : decode cX8_takesLetter 28 = .ok (.iconst 4, 1) := by decide +kernel
theorem dX8_takesLetter_29 : decode cX8_takesLetter 29 = .ok (.goto 4, 3) := by decide +kernel
theorem dX8_takesLetter_32 : decode cX8_takesLetter 32 = .ok (.iconst 5, 1) := by decide +kernel
theorem dX8_takesLetter_33 : decode cX8_takesLetter 33 = .ok (.if_icmp .ne 7, 3) := by decide +kernel
theorem dX8_takesLetter_36 : decode cX8_takesLetter 36 = .ok (.iconst 1, 1) := by decide +kernel
theorem dX8_takesLetter_37 : decode cX8_takesLetter 37 = .ok (.goto 4, 3) := by decide +kernel
theorem dX8_takesLetter_40 : decode cX8_takesLetter 40 = .ok (.iconst 0, 1) := by decide +kernel
theorem dX8_takesLetter_41 : decode cX8_takesLetter 41 = .ok (.ireturn, 1) := by decide +kernel
theorem sp_X8_takesLetter {t l : Nat} {x y : Int32} {D : Mem} (hx : x = nI t) (ht : t < 7) (hy : y = nI l) (hl : l < 4) : Ei 1 j_X8_takesLetter [.ref 104, .int x, .int y] D (b2i (fitT t l)) (D) := by
  refine E.start 0 (ls := [some (.ref 104), some (.int x), some (.int y)]) (by decide +kernel) (Nat.le_of_ble_eq_true rfl) rfl (Nat.le_refl _) (Nat.le_refl _) ?_
  subst hx; subst hy
  refine X_iload_n (nx := 1) dX8_takesLetter_0 rfl rfl rfl ?_
  refine X_iconst (v := nI 4) (nx := 2) dX8_takesLetter_1 rfl rfl ?_
  refine X_icmp_ge (tgt := 16) (nx := 5) dX8_takesLetter_2 rfl rfl (fun h2 => ?_) (fun h2 => ?_)
  · skip
    rw [nI_leI (by omega) (by omega)] at h2
    refine X_iload_n (nx := 17) dX8_takesLetter_16 rfl rfl rfl ?_
    refine X_bipush (v := nI 6) (nx := 19) dX8_takesLetter_17 rfl rfl ?_
    refine X_icmp_eq (tgt := 36) (nx := 22) dX8_takesLetter_19 rfl rfl (fun h19 => ?_) (fun h19 => ?_)
    · skip
      rw [nI_eq (by omega) (by omega)] at h19
      refine X_iconst (v := 1) (nx := 37) dX8_takesLetter_36 rfl rfl ?_
      refine X_goto (tgt := 41) dX8_takesLetter_37 rfl ?_
      exact Y_reti dX8_takesLetter_41 (Or.inr ⟨rfl, by first | exact Or.inl rfl | exact Or.inr rfl | exact b2i_01 _ | assumption⟩) (by unfold fitT; rw [if_neg (by omega)]; first | (rw [decide_eq_true h19]; rfl) | (rw [decide_eq_false h19, Bool.false_or, if_neg (by omega)]; first | (rw [decide_eq_true h33]; rfl) | (rw [decide_eq_false h33]; rfl)) | (rw [decide_eq_false h19, Bool.false_or, if_pos (by omega)]; first | (rw [decide_eq_true h33]; rfl) | (rw [decide_eq_false h33]; rfl))) rfl
    · skip
      rw [nI_eq (by omega) (by omega)] at h19
      refine X_iload_n (nx := 23) dX8_takesLetter_22 rfl rfl rfl ?_
      refine X_iload_n (nx := 24) dX8_takesLetter_23 rfl rfl rfl ?_
      refine X_iconst (v := nI 2) (nx := 25) dX8_takesLetter_24 rfl rfl ?_
      refine X_icmp_ge (tgt := 32) (nx := 28) dX8_takesLetter_25 rfl rfl (fun h25 => ?_) (fun h25 => ?_)
      · skip
        rw [nI_leI (by omega) (by omega)] at h25
        refine X_iconst (v := nI 5) (nx := 33) dX8_takesLetter_32 rfl rfl ?_
        refine X_icmp_ne (tgt := 40) (nx := 36) dX8_takesLetter_33 rfl rfl (fun h33 => ?_) (fun h33 => ?_)
        · skip
          rw [nI_eq (by omega) (by omega)] at h33
          refine X_iconst (v := 0) (nx := 41) dX8_takesLetter_40 rfl rfl ?_
          exact Y_reti dX8_takesLetter_41 (Or.inr ⟨rfl, by first | exact Or.inl rfl | exact Or.inr rfl | exact b2i_01 _ | assumption⟩) (by unfold fitT; rw [if_neg (by omega)]; first | (rw [decide_eq_true h19]; rfl) | (rw [decide_eq_false h19, Bool.false_or, if_neg (by omega)]; first | (rw [decide_eq_true h33]; rfl) | (rw [decide_eq_false h33]; rfl)) | (rw [decide_eq_false h19, Bool.false_or, if_pos (by omega)]; first | (rw [decide_eq_true h33]; rfl) | (rw [decide_eq_false h33]; rfl))) rfl
        · skip
          rw [nI_eq (by omega) (by omega)] at h33
          refine X_iconst (v := 1) (nx := 37) dX8_takesLetter_36 rfl rfl ?_
          refine X_goto (tgt := 41) dX8_takesLetter_37 rfl ?_
          exact Y_reti dX8_takesLetter_41 (Or.inr ⟨rfl, by first | exact Or.inl rfl | exact Or.inr rfl | exact b2i_01 _ | assumption⟩) (by unfold fitT; rw [if_neg (by omega)]; first | (rw [decide_eq_true h19]; rfl) | (rw [decide_eq_false h19, Bool.false_or, if_neg (by omega)]; first | (rw [decide_eq_true h33]; rfl) | (rw [decide_eq_false h33]; rfl)) | (rw [decide_eq_false h19, Bool.false_or, if_pos (by omega)]; first | (rw [decide_eq_true h33]; rfl) | (rw [decide_eq_false h33]; rfl))) rfl
      · skip
        rw [nI_leI (by omega) (by omega)] at h25
        refine X_iconst (v := nI 4) (nx := 29) dX8_takesLetter_28 rfl rfl ?_
        refine X_goto (tgt := 33) dX8_takesLetter_29 rfl ?_
        refine X_icmp_ne (tgt := 40) (nx := 36) dX8_takesLetter_33 rfl rfl (fun h33 => ?_) (fun h33 => ?_)
        · skip
          rw [nI_eq (by omega) (by omega)] at h33
          refine X_iconst (v := 0) (nx := 41) dX8_takesLetter_40 rfl rfl ?_
          exact Y_reti dX8_takesLetter_41 (Or.inr ⟨rfl, by first | exact Or.inl rfl | exact Or.inr rfl | exact b2i_01 _ | assumption⟩) (by unfold fitT; rw [if_neg (by omega)]; first | (rw [decide_eq_true h19]; rfl) | (rw [decide_eq_false h19, Bool.false_or, if_neg (by omega)]; first | (rw [decide_eq_true h33]; rfl) | (rw [decide_eq_false h33]; rfl)) | (rw [decide_eq_false h19, Bool.false_or, if_pos (by omega)]; first | (rw [decide_eq_true h33]; rfl) | (rw [decide_eq_false h33]; rfl))) rfl
        · skip
          rw [nI_eq (by omega) (by omega)] at h33
          refine X_iconst (v := 1) (nx := 37) dX8_takesLetter_36 rfl rfl ?_
          refine X_goto (tgt := 41) dX8_takesLetter_37 rfl ?_
          exact Y_reti dX8_takesLetter_41 (Or.inr ⟨rfl, by first | exact Or.inl rfl | exact Or.inr rfl | exact b2i_01 _ | assumption⟩) (by unfold fitT; rw [if_neg (by omega)]; first | (rw [decide_eq_true h19]; rfl) | (rw [decide_eq_false h19, Bool.false_or, if_neg (by omega)]; first | (rw [decide_eq_true h33]; rfl) | (rw [decide_eq_false h33]; rfl)) | (rw [decide_eq_false h19, Bool.false_or, if_pos (by omega)]; first | (rw [decide_eq_true h33]; rfl) | (rw [decide_eq_false h33]; rfl))) rfl
  · skip
    rw [nI_leI (by omega) (by omega)] at h2
    refine X_iload_n (nx := 6) dX8_takesLetter_5 rfl rfl rfl ?_
    refine X_iload_n (nx := 7) dX8_takesLetter_6 rfl rfl rfl ?_
    refine X_icmp_ne (tgt := 14) (nx := 10) dX8_takesLetter_7 rfl rfl (fun h7 => ?_) (fun h7 => ?_)
    · skip
      rw [nI_eq (by omega) (by omega)] at h7
      refine X_iconst (v := 0) (nx := 15) dX8_takesLetter_14 rfl rfl ?_
      exact Y_reti dX8_takesLetter_15 (Or.inr ⟨rfl, by first | exact Or.inl rfl | exact Or.inr rfl | exact b2i_01 _ | assumption⟩) (by unfold fitT; rw [if_pos (by omega)]; first | (rw [decide_eq_true h7]; rfl) | (rw [decide_eq_false h7]; rfl)) rfl
    · skip
      rw [nI_eq (by omega) (by omega)] at h7
      refine X_iconst (v := 1) (nx := 11) dX8_takesLetter_10 rfl rfl ?_
      refine X_goto (tgt := 15) dX8_takesLetter_11 rfl ?_
      exact Y_reti dX8_takesLetter_15 (Or.inr ⟨rfl, by first | exact Or.inl rfl | exact Or.inr rfl | exact b2i_01 _ | assumption⟩) (by unfold fitT; rw [if_pos (by omega)]; first | (rw [decide_eq_true h7]; rfl) | (rw [decide_eq_false h7]; rfl)) rfl
theorem pl_of {B : Bk} {r : Nat} (h : VS (sg_ B r)) : pl (sg_ B r) = if rsB B r = true then (sg_ B r).length - 1 else (sg_ B r).length := by
  have hp := pl_le (sg_ B r)
  unfold rsB
  rcases VS_cut h with q | ⟨q, _⟩
  · rw [if_neg (by rw [decide_eq_false (by omega)]; decide)]; exact q
  · rw [if_pos (decide_eq_true (by omega))]; omega
theorem dX8_takes_0 : decode cX8_takes 0 = .ok (.aload_n 0, 1) := by decide +kernel
theorem dX8_takes_1 : decode cX8_takes 1 = .ok (.iload_n 1, 1) := by decide +kernel
theorem dX8_takes_2 : decode cX8_takes 2 = .ok (.invokevirtual 149, 3) := by decide +kernel
theorem dX8_takes_5 : decode cX8_takes 5 = .ok (.ifCond .eq 14, 3) := by decide +kernel
theorem dX8_takes_8 : decode cX8_takes 8 = .ok (.aload_n 0, 1) := by decide +kernel
theorem dX8_takes_9 : decode cX8_takes 9 = .ok (.getfield 31, 3) := by decide +kernel
theorem dX8_takes_12 : decode cX8_takes 12 = .ok (.iload_n 1, 1) := by decide +kernel
theorem dX8_takes_13 : decode cX8_takes 13 = .ok (.iaload, 1) := by decide +kernel
theorem dX8_takes_14 : decode cX8_takes 14 = .ok (.iconst 1, 1) := by decide +kernel
theorem dX8_takes_15 : decode cX8_takes 15 = .ok (.isub, 1) := by decide +kernel
theorem dX8_takes_16 : decode cX8_takes 16 = .ok (.goto 9, 3) := by decide +kernel
theorem dX8_takes_19 : decode cX8_takes 19 = .ok (.aload_n 0, 1) := by decide +kernel
theorem dX8_takes_20 : decode cX8_takes 20 = .ok (.getfield 31, 3) := by decide +kernel
theorem dX8_takes_23 : decode cX8_takes 23 = .ok (.iload_n 1, 1) := by decide +kernel
theorem dX8_takes_24 : decode cX8_takes 24 = .ok (.iaload, 1) := by decide +kernel
theorem dX8_takes_25 : decode cX8_takes 25 = .ok (.istore_n 2, 1) := by decide +kernel
theorem dX8_takes_26 : decode cX8_takes 26 = .ok (.aload_n 0, 1) := by decide +kernel
theorem dX8_takes_27 : decode cX8_takes 27 = .ok (.iload_n 1, 1) := by decide +kernel
theorem dX8_takes_28 : decode cX8_takes 28 = .ok (.invokevirtual 127, 3) := by decide +kernel
theorem dX8_takes_31 : decode cX8_takes 31 = .ok (.ifCond .ne 11, 3) := by decide +kernel
theorem dX8_takes_34 : decode cX8_takes 34 = .ok (.aload_n 0, 1) := by decide +kernel
theorem dX8_takes_35 : decode cX8_takes 35 = .ok (.iload_n 1, 1) := by decide +kernel
theorem dX8_takes_36 : decode cX8_takes 36 = .ok (.invokevirtual 149, 3) := by decide +kernel
theorem dX8_takes_39 : decode cX8_takes 39 = .ok (.ifCond .eq 19, 3) := by decide +kernel
theorem dX8_takes_42 : decode cX8_takes 42 = .ok (.aload_n 0, 1) := by decide +kernel
theorem dX8_takes_43 : decode cX8_takes 43 = .ok (.getfield 134, 3) := by decide +kernel
theorem dX8_takes_46 : decode cX8_takes 46 = .ok (.iload_n 2, 1) := by decide +kernel
theorem dX8_takes_47 : decode cX8_takes 47 = .ok (.if_icmp .lt 7, 3) := by decide +kernel
theorem dX8_takes_50 : decode cX8_takes 50 = .ok (.iconst 1, 1) := by decide +kernel
theorem dX8_takes_51 : decode cX8_takes 51 = .ok (.goto 20, 3) := by decide +kernel
theorem dX8_takes_54 : decode cX8_takes 54 = .ok (.iconst 0, 1) := by decide +kernel
theorem dX8_takes_55 : decode cX8_takes 55 = .ok (.goto 16, 3) := by decide +kernel
theorem dX8_takes_58 : decode cX8_takes 58 = .ok (.aload_n 0, 1) := by decide +kernel
theorem dX8_takes_59 : decode cX8_takes 59 = .ok (.getfield 134, 3) := by decide +kernel
theorem dX8_takes_62 : decode cX8_takes 62 = .ok (.iload_n 2, 1) := by decide +kernel
theorem dX8_takes_63 : decode cX8_takes 63 = .ok (.if_icmp .ne 7, 3) := by decide +kernel
theorem dX8_takes_66 : decode cX8_takes 66 = .ok (.iconst 1, 1) := by decide +kernel
theorem dX8_takes_67 : decode cX8_takes 67 = .ok (.goto 4, 3) := by decide +kernel
theorem dX8_takes_70 : decode cX8_takes 70 = .ok (.iconst 0, 1) := by decide +kernel
theorem dX8_takes_71 : decode cX8_takes 71 = .ok (.istore_n 3, 1) := by decide +kernel
theorem dX8_takes_72 : decode cX8_takes 72 = .ok (.iconst 0, 1) := by decide +kernel
theorem dX8_takes_73 : decode cX8_takes 73 = .ok (.istore 4, 2) := by decide +kernel
theorem dX8_takes_75 : decode cX8_takes 75 = .ok (.iload 4, 2) := by decide +kernel
theorem dX8_takes_77 : decode cX8_takes 77 = .ok (.iload_n 2, 1) := by decide +kernel
theorem dX8_takes_78 : decode cX8_takes 78 = .ok (.if_icmp .ge 32, 3) := by decide +kernel
theorem dX8_takes_81 : decode cX8_takes 81 = .ok (.iload_n 3, 1) := by decide +kernel
theorem dX8_takes_82 : decode cX8_takes 82 = .ok (.ifCond .eq 28, 3) := by decide +kernel
theorem dX8_takes_85 : decode cX8_takes 85 = .ok (.aload_n 0, 1) := by decide +kernel
theorem dX8_takes_86 : decode cX8_takes 86 = .ok (.aload_n 0, 1) := by decide +kernel
theorem dX8_takes_87 : decode cX8_takes 87 = .ok (.iload_n 1, 1) := by decide +kernel
theorem dX8_takes_88 : decode cX8_takes 88 = .ok (.iload 4, 2) := by decide +kernel
theorem dX8_takes_90 : decode cX8_takes 90 = .ok (.invokevirtual 119, 3) := by decide +kernel
theorem dX8_takes_93 : decode cX8_takes 93 = .ok (.aload_n 0, 1) := by decide +kernel
theorem dX8_takes_94 : decode cX8_takes 94 = .ok (.getfield 37, 3) := by decide +kernel
theorem dX8_takes_97 : decode cX8_takes 97 = .ok (.iload 4, 2) := by decide +kernel
theorem dX8_takes_99 : decode cX8_takes 99 = .ok (.iaload, 1) := by decide +kernel
theorem dX8_takes_100 : decode cX8_takes 100 = .ok (.invokevirtual 332, 3) := by decide +kernel
theorem dX8_takes_103 : decode cX8_takes 103 = .ok (.istore_n 3, 1) := by decide +kernel
theorem dX8_takes_104 : decode cX8_takes 104 = .ok (.iinc 4 1, 3) := by decide +kernel
theorem dX8_takes_107 : decode cX8_takes 107 = .ok (.goto (-32), 3) := by decide +kernel
theorem dX8_takes_110 : decode cX8_takes 110 = .ok (.iload_n 3, 1) := by decide +kernel
theorem dX8_takes_111 : decode cX8_takes 111 = .ok (.ireturn, 1) := by decide +kernel
theorem lp_X8_takes {r : Nat} {L : List Nat} {B : Bk} {T : Nat → Bool} {K F : Nat → Nat} {D : Mem} (h : RB D B T K F) (hV : VB B) (hL : LT D L) (hr : r < cm_ B) : ∀ (m : Nat) (i : Nat) (f : Bool), i + m = pl (sg_ B r) → (f = true → pl (sg_ B r) ≤ L.length) → X 3 138 j_X8_takes 75 [some (.ref 104), some (.int (nI r)), some (.int (nI (pl (sg_ B r)))), some (.int (b2i f)), some (.int (nI i))] [] (138, P0, D) (fun x σ => x = [.int (b2i (f && alB (tkF (sg_ B r) L) i m))] ∧ σ = wd D) := by
  intro m
  induction m with
  | zero =>
    intro i f hi hf
    obtain ⟨hB1, hB2, hB3⟩ := id h
    have hcm := hV.2.1
    have hll := hL.2.2.1
    have hvs := (hV.2.2 r hr).2.1
    have hpl4 := pl_le (sg_ B r)
    have hs4 := sgl_le hV hr
    refine X_iload (nx := 77) dX8_takes_75 rfl rfl ?_
    refine X_iload_n (nx := 78) dX8_takes_77 rfl rfl rfl ?_
    refine X_icmp_ge (tgt := 110) (nx := 81) dX8_takes_78 rfl rfl (fun h78 => ?_) (fun h78 => ?_)
    · skip
      refine X_iload_n (nx := 111) dX8_takes_110 rfl rfl rfl ?_
      exact Y_reti dX8_takes_111 (Or.inr ⟨rfl, by first | exact Or.inl rfl | exact Or.inr rfl | exact b2i_01 _ | assumption⟩) (by rw [show alB (tkF (sg_ B r) L) i 0 = true from rfl, Bool.and_true]) rfl
    · exact absurd h78 (fun q => q (nI_le (by omega) (by omega)))
  | succ m ih =>
    intro i f hi hf
    obtain ⟨hB1, hB2, hB3⟩ := id h
    have hcm := hV.2.1
    have hll := hL.2.2.1
    have hvs := (hV.2.2 r hr).2.1
    have hpl4 := pl_le (sg_ B r)
    have hs4 := sgl_le hV hr
    refine X_iload (nx := 77) dX8_takes_75 rfl rfl ?_
    refine X_iload_n (nx := 78) dX8_takes_77 rfl rfl rfl ?_
    refine X_icmp_ge (tgt := 110) (nx := 81) dX8_takes_78 rfl rfl (fun h78 => ?_) (fun h78 => ?_)
    · exact absurd h78 (nI_ge (by omega) (by omega))
    · skip
      refine X_iload_n (nx := 82) dX8_takes_81 rfl rfl rfl ?_
      refine X_if_eq (tgt := 110) (nx := 85) dX8_takes_82 rfl rfl (fun h82 => ?_) (fun h82 => ?_)
      · skip
        have e82 := b2i_f.mp h82
        subst e82
        refine X_iload_n (nx := 111) dX8_takes_110 rfl rfl rfl ?_
        exact Y_reti dX8_takes_111 (Or.inr ⟨rfl, by first | exact Or.inl rfl | exact Or.inr rfl | exact b2i_01 _ | assumption⟩) (by rfl) rfl
      · skip
        have e82 := b2i_t.mp h82
        subst e82
        have hpl := hf rfl
        have hsv := hvs.plain (k := i) (by omega)
        have ht7 := typ_l7 hsv.1 hsv.2
        have hl4 := hL.2.2.2 _ (getD_in (show i < L.length by omega))
        refine X_aload_n (nx := 86) dX8_takes_85 rfl rfl rfl ?_
        refine X_aload_n (nx := 87) dX8_takes_86 rfl rfl rfl ?_
        refine X_iload_n (nx := 88) dX8_takes_87 rfl rfl rfl ?_
        refine X_iload (nx := 90) dX8_takes_88 rfl rfl ?_
        refine Y_Vi2 (nx := 93) dX8_takes_90 rfl ml_RX8_119 kj_X8_typeOf kv_X8_typeOf (sp_X8_typeOf h hV rfl hr rfl (by omega)) (by first | assumption | rfl | decide | omega) (by first | assumption | rfl | decide | omega) (by decide) rfl (by first | decide | omega) (by exact Nat.le_of_ble_eq_true rfl) ?_
        refine X_aload_n (nx := 94) dX8_takes_93 rfl rfl rfl ?_
        refine M_getP (nx := 97) dX8_takes_94 rfl fl_RX8_37 rfl (by first | assumption | rfl | decide | omega) (by first | assumption | rfl | decide | omega) (by first | assumption | rfl | decide | omega) ?_
        refine X_iload (nx := 99) dX8_takes_97 rfl rfl ?_
        refine M_ld (a := 114) (L := 4) (nx := 100) dX8_takes_99 rfl (by decide) (by decide) rfl (by decide) (by omega) (hL.2.1 i (by omega)) ?_
        refine Y_Vi2 (nx := 103) dX8_takes_100 rfl ml_RX8_332 kj_X8_takesLetter kv_X8_takesLetter (sp_X8_takesLetter rfl ht7 rfl hl4) (by first | assumption | rfl | decide | omega) (by first | assumption | rfl | decide | omega) (by decide) rfl (by first | decide | omega) (by exact Nat.le_of_ble_eq_true rfl) ?_
        refine X_istore_n (i := 3) (nx := 104) dX8_takes_103 rfl rfl (by decide) rfl (st_s (st_s (st_s (st_0)))) ?_
        refine X_iinc (nx := 107) dX8_takes_104 rfl (by decide) rfl (by first | exact ii1 _ | rfl) rfl (st_s (st_s (st_s (st_s (st_0))))) ?_
        refine X_goto (tgt := 75) dX8_takes_107 rfl ?_
        cases hz : tkF (sg_ B r) L i with
        | true =>
          rw [al_1 hz]
          have e := ih (i + 1) true (by omega) (fun _ => hpl)
          rw [show fitT (typ ((sg_ B r).getD i 0)) (L.getD i 0) = true from hz]
          exact e
        | false =>
          rw [al_0 hz]
          have e := ih (i + 1) false (by omega) (fun q => by cases q)
          rw [show fitT (typ ((sg_ B r).getD i 0)) (L.getD i 0) = false from hz]
          exact e
theorem sp_X8_takes {r : Nat} {x : Int32} {L : List Nat} {B : Bk} {T : Nat → Bool} {K F : Nat → Nat} {D : Mem} (h : RB D B T K F) (hV : VB B) (hL : LT D L) (hx : x = nI r) (hr : r < cm_ B) : Ei 3 j_X8_takes [.ref 104, .int x] D (b2i (tkB (sg_ B r) (mtB B r) L)) (D) := by
  refine E.start 3 (ls := [some (.ref 104), some (.int x), none, none, none]) (by decide +kernel) (Nat.le_of_ble_eq_true rfl) rfl (Nat.le_refl _) (Nat.le_refl _) ?_
  subst hx
  obtain ⟨hB1, hB2, hB3⟩ := id h
  have hcm := hV.2.1
  have hll := hL.2.2.1
  have hvs := (hV.2.2 r hr).2.1
  have hpl4 := pl_le (sg_ B r)
  have hs4 := sgl_le hV hr
  have hpo := pl_of hvs
  refine X_aload_n (nx := 1) dX8_takes_0 rfl rfl rfl ?_
  refine X_iload_n (nx := 2) dX8_takes_1 rfl rfl rfl ?_
  refine Y_Vi1 (nx := 5) dX8_takes_2 rfl ml_RX8_149 kj_X8_hasRest kv_X8_hasRest (sp_X8_hasRest h hV rfl hr) (by first | assumption | rfl | decide | omega) (by first | assumption | rfl | decide | omega) (by decide) rfl (by first | decide | omega) (by exact Nat.le_of_ble_eq_true rfl) ?_
  refine X_if_eq (tgt := 19) (nx := 8) dX8_takes_5 rfl rfl (fun h5 => ?_) (fun h5 => ?_)
  · skip
    have hrs := b2i_f.mp h5
    rw [hrs, if_neg (by decide)] at hpo
    refine X_aload_n (nx := 20) dX8_takes_19 rfl rfl rfl ?_
    refine M_getP (nx := 23) dX8_takes_20 rfl fl_RX8_31 rfl (by first | assumption | rfl | decide | omega) (by first | assumption | rfl | decide | omega) (by first | assumption | rfl | decide | omega) ?_
    refine X_iload_n (nx := 24) dX8_takes_23 rfl rfl rfl ?_
    refine M_ld (a := 112) (L := 10) (nx := 25) dX8_takes_24 rfl (by decide) (by decide) rfl (by decide) (by omega) ((hB3 r hr).2.2.2.2.1) ?_
    refine X_top (show _ = nI (pl (sg_ B r)) from (by rw [hpo])) ?_
    refine X_istore_n (i := 2) (nx := 26) dX8_takes_25 rfl rfl (by decide) rfl (st_s (st_s (st_0))) ?_
    refine X_aload_n (nx := 27) dX8_takes_26 rfl rfl rfl ?_
    refine X_iload_n (nx := 28) dX8_takes_27 rfl rfl rfl ?_
    refine Y_Vi1 (nx := 31) dX8_takes_28 rfl ml_RX8_127 kj_X8_isMount kv_X8_isMount (sp_X8_isMount h hV rfl hr) (by first | assumption | rfl | decide | omega) (by first | assumption | rfl | decide | omega) (by decide) rfl (by first | decide | omega) (by exact Nat.le_of_ble_eq_true rfl) ?_
    refine X_if_ne (tgt := 42) (nx := 34) dX8_takes_31 rfl rfl (fun h31 => ?_) (fun h31 => ?_)
    · skip
      refine X_aload_n (nx := 43) dX8_takes_42 rfl rfl rfl ?_
      refine M_getI (nx := 46) dX8_takes_43 rfl fl_RX8_134 rfl (by first | assumption | rfl | decide | omega) (by first | assumption | rfl | decide | omega) ?_
      refine X_top (hL.1) ?_
      refine X_iload_n (nx := 47) dX8_takes_46 rfl rfl rfl ?_
      refine X_icmp_lt (tgt := 54) (nx := 50) dX8_takes_47 rfl rfl (fun h47 => ?_) (fun h47 => ?_)
      · skip
        rw [nI_ltI (by omega) (by omega)] at h47
        refine X_iconst (v := 0) (nx := 55) dX8_takes_54 rfl rfl ?_
        refine X_goto (tgt := 71) dX8_takes_55 rfl ?_
        refine X_istore_n (i := 3) (nx := 72) dX8_takes_71 rfl rfl (by decide) rfl (st_s (st_s (st_s (st_0)))) ?_
        refine X_iconst (v := nI 0) (nx := 73) dX8_takes_72 rfl rfl ?_
        refine X_istore (i := 4) (nx := 75) dX8_takes_73 rfl (by decide) rfl (st_s (st_s (st_s (st_s (st_0))))) ?_
        first
        | exact absurd (show b2i false = 0 from rfl) h39
        | exact absurd h39 (by decide)
        | (rw [tk_on (by first | (rw [decide_eq_true (show pl (sg_ B r) < (sg_ B r).length from of_decide_eq_true hrs)]; rfl) | (rw [b2i_t.mp h31, Bool.or_true]))]
           first
           | (rw [decide_eq_true (show pl (sg_ B r) ≤ L.length by omega)]; exact lp_X8_takes h hV hL hr (pl (sg_ B r)) 0 true (Nat.zero_add _) (fun _ => by omega))
           | (rw [decide_eq_false (show ¬ pl (sg_ B r) ≤ L.length by omega)]; exact lp_X8_takes h hV hL hr (pl (sg_ B r)) 0 false (Nat.zero_add _) (fun q => by cases q)))
        | (rw [tk_off (by rw [decide_eq_false (show ¬ pl (sg_ B r) < (sg_ B r).length from of_decide_eq_false hrs), b2i_f.mp h31]; decide)]
           first
           | (rw [decide_eq_true (show L.length = pl (sg_ B r) by omega)]; exact lp_X8_takes h hV hL hr (pl (sg_ B r)) 0 true (Nat.zero_add _) (fun _ => by omega))
           | (rw [decide_eq_false (show ¬ L.length = pl (sg_ B r) by omega)]; exact lp_X8_takes h hV hL hr (pl (sg_ B r)) 0 false (Nat.zero_add _) (fun q => by cases q)))
      · skip
        rw [nI_ltI (by omega) (by omega)] at h47
        refine X_iconst (v := 1) (nx := 51) dX8_takes_50 rfl rfl ?_
        refine X_goto (tgt := 71) dX8_takes_51 rfl ?_
        refine X_istore_n (i := 3) (nx := 72) dX8_takes_71 rfl rfl (by decide) rfl (st_s (st_s (st_s (st_0)))) ?_
        refine X_iconst (v := nI 0) (nx := 73) dX8_takes_72 rfl rfl ?_
        refine X_istore (i := 4) (nx := 75) dX8_takes_73 rfl (by decide) rfl (st_s (st_s (st_s (st_s (st_0))))) ?_
        first
        | exact absurd (show b2i false = 0 from rfl) h39
        | exact absurd h39 (by decide)
        | (rw [tk_on (by first | (rw [decide_eq_true (show pl (sg_ B r) < (sg_ B r).length from of_decide_eq_true hrs)]; rfl) | (rw [b2i_t.mp h31, Bool.or_true]))]
           first
           | (rw [decide_eq_true (show pl (sg_ B r) ≤ L.length by omega)]; exact lp_X8_takes h hV hL hr (pl (sg_ B r)) 0 true (Nat.zero_add _) (fun _ => by omega))
           | (rw [decide_eq_false (show ¬ pl (sg_ B r) ≤ L.length by omega)]; exact lp_X8_takes h hV hL hr (pl (sg_ B r)) 0 false (Nat.zero_add _) (fun q => by cases q)))
        | (rw [tk_off (by rw [decide_eq_false (show ¬ pl (sg_ B r) < (sg_ B r).length from of_decide_eq_false hrs), b2i_f.mp h31]; decide)]
           first
           | (rw [decide_eq_true (show L.length = pl (sg_ B r) by omega)]; exact lp_X8_takes h hV hL hr (pl (sg_ B r)) 0 true (Nat.zero_add _) (fun _ => by omega))
           | (rw [decide_eq_false (show ¬ L.length = pl (sg_ B r) by omega)]; exact lp_X8_takes h hV hL hr (pl (sg_ B r)) 0 false (Nat.zero_add _) (fun q => by cases q)))
    · skip
      refine X_aload_n (nx := 35) dX8_takes_34 rfl rfl rfl ?_
      refine X_iload_n (nx := 36) dX8_takes_35 rfl rfl rfl ?_
      refine Y_Vi1 (nx := 39) dX8_takes_36 rfl ml_RX8_149 kj_X8_hasRest kv_X8_hasRest (sp_X8_hasRest h hV rfl hr) (by first | assumption | rfl | decide | omega) (by first | assumption | rfl | decide | omega) (by decide) rfl (by first | decide | omega) (by exact Nat.le_of_ble_eq_true rfl) ?_
      refine X_if_eq (tgt := 58) (nx := 42) dX8_takes_39 rfl rfl (fun h39 => ?_) (fun h39 => ?_)
      · skip
        rw [hrs] at h39
        refine X_aload_n (nx := 59) dX8_takes_58 rfl rfl rfl ?_
        refine M_getI (nx := 62) dX8_takes_59 rfl fl_RX8_134 rfl (by first | assumption | rfl | decide | omega) (by first | assumption | rfl | decide | omega) ?_
        refine X_top (hL.1) ?_
        refine X_iload_n (nx := 63) dX8_takes_62 rfl rfl rfl ?_
        refine X_icmp_ne (tgt := 70) (nx := 66) dX8_takes_63 rfl rfl (fun h63 => ?_) (fun h63 => ?_)
        · skip
          rw [nI_eq (by omega) (by omega)] at h63
          refine X_iconst (v := 0) (nx := 71) dX8_takes_70 rfl rfl ?_
          refine X_istore_n (i := 3) (nx := 72) dX8_takes_71 rfl rfl (by decide) rfl (st_s (st_s (st_s (st_0)))) ?_
          refine X_iconst (v := nI 0) (nx := 73) dX8_takes_72 rfl rfl ?_
          refine X_istore (i := 4) (nx := 75) dX8_takes_73 rfl (by decide) rfl (st_s (st_s (st_s (st_s (st_0))))) ?_
          first
          | exact absurd (show b2i false = 0 from rfl) h39
          | exact absurd h39 (by decide)
          | (rw [tk_on (by first | (rw [decide_eq_true (show pl (sg_ B r) < (sg_ B r).length from of_decide_eq_true hrs)]; rfl) | (rw [b2i_t.mp h31, Bool.or_true]))]
             first
             | (rw [decide_eq_true (show pl (sg_ B r) ≤ L.length by omega)]; exact lp_X8_takes h hV hL hr (pl (sg_ B r)) 0 true (Nat.zero_add _) (fun _ => by omega))
             | (rw [decide_eq_false (show ¬ pl (sg_ B r) ≤ L.length by omega)]; exact lp_X8_takes h hV hL hr (pl (sg_ B r)) 0 false (Nat.zero_add _) (fun q => by cases q)))
          | (rw [tk_off (by rw [decide_eq_false (show ¬ pl (sg_ B r) < (sg_ B r).length from of_decide_eq_false hrs), b2i_f.mp h31]; decide)]
             first
             | (rw [decide_eq_true (show L.length = pl (sg_ B r) by omega)]; exact lp_X8_takes h hV hL hr (pl (sg_ B r)) 0 true (Nat.zero_add _) (fun _ => by omega))
             | (rw [decide_eq_false (show ¬ L.length = pl (sg_ B r) by omega)]; exact lp_X8_takes h hV hL hr (pl (sg_ B r)) 0 false (Nat.zero_add _) (fun q => by cases q)))
        · skip
          rw [nI_eq (by omega) (by omega)] at h63
          refine X_iconst (v := 1) (nx := 67) dX8_takes_66 rfl rfl ?_
          refine X_goto (tgt := 71) dX8_takes_67 rfl ?_
          refine X_istore_n (i := 3) (nx := 72) dX8_takes_71 rfl rfl (by decide) rfl (st_s (st_s (st_s (st_0)))) ?_
          refine X_iconst (v := nI 0) (nx := 73) dX8_takes_72 rfl rfl ?_
          refine X_istore (i := 4) (nx := 75) dX8_takes_73 rfl (by decide) rfl (st_s (st_s (st_s (st_s (st_0))))) ?_
          first
          | exact absurd (show b2i false = 0 from rfl) h39
          | exact absurd h39 (by decide)
          | (rw [tk_on (by first | (rw [decide_eq_true (show pl (sg_ B r) < (sg_ B r).length from of_decide_eq_true hrs)]; rfl) | (rw [b2i_t.mp h31, Bool.or_true]))]
             first
             | (rw [decide_eq_true (show pl (sg_ B r) ≤ L.length by omega)]; exact lp_X8_takes h hV hL hr (pl (sg_ B r)) 0 true (Nat.zero_add _) (fun _ => by omega))
             | (rw [decide_eq_false (show ¬ pl (sg_ B r) ≤ L.length by omega)]; exact lp_X8_takes h hV hL hr (pl (sg_ B r)) 0 false (Nat.zero_add _) (fun q => by cases q)))
          | (rw [tk_off (by rw [decide_eq_false (show ¬ pl (sg_ B r) < (sg_ B r).length from of_decide_eq_false hrs), b2i_f.mp h31]; decide)]
             first
             | (rw [decide_eq_true (show L.length = pl (sg_ B r) by omega)]; exact lp_X8_takes h hV hL hr (pl (sg_ B r)) 0 true (Nat.zero_add _) (fun _ => by omega))
             | (rw [decide_eq_false (show ¬ L.length = pl (sg_ B r) by omega)]; exact lp_X8_takes h hV hL hr (pl (sg_ B r)) 0 false (Nat.zero_add _) (fun q => by cases q)))
      · skip
        rw [hrs] at h39
        refine X_aload_n (nx := 43) dX8_takes_42 rfl rfl rfl ?_
        refine M_getI (nx := 46) dX8_takes_43 rfl fl_RX8_134 rfl (by first | assumption | rfl | decide | omega) (by first | assumption | rfl | decide | omega) ?_
        refine X_top (hL.1) ?_
        refine X_iload_n (nx := 47) dX8_takes_46 rfl rfl rfl ?_
        refine X_icmp_lt (tgt := 54) (nx := 50) dX8_takes_47 rfl rfl (fun h47 => ?_) (fun h47 => ?_)
        · skip
          rw [nI_ltI (by omega) (by omega)] at h47
          refine X_iconst (v := 0) (nx := 55) dX8_takes_54 rfl rfl ?_
          refine X_goto (tgt := 71) dX8_takes_55 rfl ?_
          refine X_istore_n (i := 3) (nx := 72) dX8_takes_71 rfl rfl (by decide) rfl (st_s (st_s (st_s (st_0)))) ?_
          refine X_iconst (v := nI 0) (nx := 73) dX8_takes_72 rfl rfl ?_
          refine X_istore (i := 4) (nx := 75) dX8_takes_73 rfl (by decide) rfl (st_s (st_s (st_s (st_s (st_0))))) ?_
          first
          | exact absurd (show b2i false = 0 from rfl) h39
          | exact absurd h39 (by decide)
          | (rw [tk_on (by first | (rw [decide_eq_true (show pl (sg_ B r) < (sg_ B r).length from of_decide_eq_true hrs)]; rfl) | (rw [b2i_t.mp h31, Bool.or_true]))]
             first
             | (rw [decide_eq_true (show pl (sg_ B r) ≤ L.length by omega)]; exact lp_X8_takes h hV hL hr (pl (sg_ B r)) 0 true (Nat.zero_add _) (fun _ => by omega))
             | (rw [decide_eq_false (show ¬ pl (sg_ B r) ≤ L.length by omega)]; exact lp_X8_takes h hV hL hr (pl (sg_ B r)) 0 false (Nat.zero_add _) (fun q => by cases q)))
          | (rw [tk_off (by rw [decide_eq_false (show ¬ pl (sg_ B r) < (sg_ B r).length from of_decide_eq_false hrs), b2i_f.mp h31]; decide)]
             first
             | (rw [decide_eq_true (show L.length = pl (sg_ B r) by omega)]; exact lp_X8_takes h hV hL hr (pl (sg_ B r)) 0 true (Nat.zero_add _) (fun _ => by omega))
             | (rw [decide_eq_false (show ¬ L.length = pl (sg_ B r) by omega)]; exact lp_X8_takes h hV hL hr (pl (sg_ B r)) 0 false (Nat.zero_add _) (fun q => by cases q)))
        · skip
          rw [nI_ltI (by omega) (by omega)] at h47
          refine X_iconst (v := 1) (nx := 51) dX8_takes_50 rfl rfl ?_
          refine X_goto (tgt := 71) dX8_takes_51 rfl ?_
          refine X_istore_n (i := 3) (nx := 72) dX8_takes_71 rfl rfl (by decide) rfl (st_s (st_s (st_s (st_0)))) ?_
          refine X_iconst (v := nI 0) (nx := 73) dX8_takes_72 rfl rfl ?_
          refine X_istore (i := 4) (nx := 75) dX8_takes_73 rfl (by decide) rfl (st_s (st_s (st_s (st_s (st_0))))) ?_
          first
          | exact absurd (show b2i false = 0 from rfl) h39
          | exact absurd h39 (by decide)
          | (rw [tk_on (by first | (rw [decide_eq_true (show pl (sg_ B r) < (sg_ B r).length from of_decide_eq_true hrs)]; rfl) | (rw [b2i_t.mp h31, Bool.or_true]))]
             first
             | (rw [decide_eq_true (show pl (sg_ B r) ≤ L.length by omega)]; exact lp_X8_takes h hV hL hr (pl (sg_ B r)) 0 true (Nat.zero_add _) (fun _ => by omega))
             | (rw [decide_eq_false (show ¬ pl (sg_ B r) ≤ L.length by omega)]; exact lp_X8_takes h hV hL hr (pl (sg_ B r)) 0 false (Nat.zero_add _) (fun q => by cases q)))
          | (rw [tk_off (by rw [decide_eq_false (show ¬ pl (sg_ B r) < (sg_ B r).length from of_decide_eq_false hrs), b2i_f.mp h31]; decide)]
             first
             | (rw [decide_eq_true (show L.length = pl (sg_ B r) by omega)]; exact lp_X8_takes h hV hL hr (pl (sg_ B r)) 0 true (Nat.zero_add _) (fun _ => by omega))
             | (rw [decide_eq_false (show ¬ L.length = pl (sg_ B r) by omega)]; exact lp_X8_takes h hV hL hr (pl (sg_ B r)) 0 false (Nat.zero_add _) (fun q => by cases q)))
  · skip
    have hrs := b2i_t.mp h5
    rw [hrs, if_pos rfl] at hpo
    have hlp : 0 < (sg_ B r).length := by have := of_decide_eq_true (show decide (pl (sg_ B r) < (sg_ B r).length) = true from hrs); omega
    refine X_aload_n (nx := 9) dX8_takes_8 rfl rfl rfl ?_
    refine M_getP (nx := 12) dX8_takes_9 rfl fl_RX8_31 rfl (by first | assumption | rfl | decide | omega) (by first | assumption | rfl | decide | omega) (by first | assumption | rfl | decide | omega) ?_
    refine X_iload_n (nx := 13) dX8_takes_12 rfl rfl rfl ?_
    refine M_ld (a := 112) (L := 10) (nx := 14) dX8_takes_13 rfl (by decide) (by decide) rfl (by decide) (by omega) ((hB3 r hr).2.2.2.2.1) ?_
    refine X_iconst (v := nI 1) (nx := 15) dX8_takes_14 rfl rfl ?_
    refine X_isub (nx := 16) dX8_takes_15 rfl ?_
    refine X_top (show _ = nI (pl (sg_ B r)) from (by rw [sub_nI (by omega), hpo])) ?_
    refine X_goto (tgt := 25) dX8_takes_16 rfl ?_
    refine X_istore_n (i := 2) (nx := 26) dX8_takes_25 rfl rfl (by decide) rfl (st_s (st_s (st_0))) ?_
    refine X_aload_n (nx := 27) dX8_takes_26 rfl rfl rfl ?_
    refine X_iload_n (nx := 28) dX8_takes_27 rfl rfl rfl ?_
    refine Y_Vi1 (nx := 31) dX8_takes_28 rfl ml_RX8_127 kj_X8_isMount kv_X8_isMount (sp_X8_isMount h hV rfl hr) (by first | assumption | rfl | decide | omega) (by first | assumption | rfl | decide | omega) (by decide) rfl (by first | decide | omega) (by exact Nat.le_of_ble_eq_true rfl) ?_
    refine X_if_ne (tgt := 42) (nx := 34) dX8_takes_31 rfl rfl (fun h31 => ?_) (fun h31 => ?_)
    · skip
      refine X_aload_n (nx := 43) dX8_takes_42 rfl rfl rfl ?_
      refine M_getI (nx := 46) dX8_takes_43 rfl fl_RX8_134 rfl (by first | assumption | rfl | decide | omega) (by first | assumption | rfl | decide | omega) ?_
      refine X_top (hL.1) ?_
      refine X_iload_n (nx := 47) dX8_takes_46 rfl rfl rfl ?_
      refine X_icmp_lt (tgt := 54) (nx := 50) dX8_takes_47 rfl rfl (fun h47 => ?_) (fun h47 => ?_)
      · skip
        rw [nI_ltI (by omega) (by omega)] at h47
        refine X_iconst (v := 0) (nx := 55) dX8_takes_54 rfl rfl ?_
        refine X_goto (tgt := 71) dX8_takes_55 rfl ?_
        refine X_istore_n (i := 3) (nx := 72) dX8_takes_71 rfl rfl (by decide) rfl (st_s (st_s (st_s (st_0)))) ?_
        refine X_iconst (v := nI 0) (nx := 73) dX8_takes_72 rfl rfl ?_
        refine X_istore (i := 4) (nx := 75) dX8_takes_73 rfl (by decide) rfl (st_s (st_s (st_s (st_s (st_0))))) ?_
        first
        | exact absurd (show b2i false = 0 from rfl) h39
        | exact absurd h39 (by decide)
        | (rw [tk_on (by first | (rw [decide_eq_true (show pl (sg_ B r) < (sg_ B r).length from of_decide_eq_true hrs)]; rfl) | (rw [b2i_t.mp h31, Bool.or_true]))]
           first
           | (rw [decide_eq_true (show pl (sg_ B r) ≤ L.length by omega)]; exact lp_X8_takes h hV hL hr (pl (sg_ B r)) 0 true (Nat.zero_add _) (fun _ => by omega))
           | (rw [decide_eq_false (show ¬ pl (sg_ B r) ≤ L.length by omega)]; exact lp_X8_takes h hV hL hr (pl (sg_ B r)) 0 false (Nat.zero_add _) (fun q => by cases q)))
        | (rw [tk_off (by rw [decide_eq_false (show ¬ pl (sg_ B r) < (sg_ B r).length from of_decide_eq_false hrs), b2i_f.mp h31]; decide)]
           first
           | (rw [decide_eq_true (show L.length = pl (sg_ B r) by omega)]; exact lp_X8_takes h hV hL hr (pl (sg_ B r)) 0 true (Nat.zero_add _) (fun _ => by omega))
           | (rw [decide_eq_false (show ¬ L.length = pl (sg_ B r) by omega)]; exact lp_X8_takes h hV hL hr (pl (sg_ B r)) 0 false (Nat.zero_add _) (fun q => by cases q)))
      · skip
        rw [nI_ltI (by omega) (by omega)] at h47
        refine X_iconst (v := 1) (nx := 51) dX8_takes_50 rfl rfl ?_
        refine X_goto (tgt := 71) dX8_takes_51 rfl ?_
        refine X_istore_n (i := 3) (nx := 72) dX8_takes_71 rfl rfl (by decide) rfl (st_s (st_s (st_s (st_0)))) ?_
        refine X_iconst (v := nI 0) (nx := 73) dX8_takes_72 rfl rfl ?_
        refine X_istore (i := 4) (nx := 75) dX8_takes_73 rfl (by decide) rfl (st_s (st_s (st_s (st_s (st_0))))) ?_
        first
        | exact absurd (show b2i false = 0 from rfl) h39
        | exact absurd h39 (by decide)
        | (rw [tk_on (by first | (rw [decide_eq_true (show pl (sg_ B r) < (sg_ B r).length from of_decide_eq_true hrs)]; rfl) | (rw [b2i_t.mp h31, Bool.or_true]))]
           first
           | (rw [decide_eq_true (show pl (sg_ B r) ≤ L.length by omega)]; exact lp_X8_takes h hV hL hr (pl (sg_ B r)) 0 true (Nat.zero_add _) (fun _ => by omega))
           | (rw [decide_eq_false (show ¬ pl (sg_ B r) ≤ L.length by omega)]; exact lp_X8_takes h hV hL hr (pl (sg_ B r)) 0 false (Nat.zero_add _) (fun q => by cases q)))
        | (rw [tk_off (by rw [decide_eq_false (show ¬ pl (sg_ B r) < (sg_ B r).length from of_decide_eq_false hrs), b2i_f.mp h31]; decide)]
           first
           | (rw [decide_eq_true (show L.length = pl (sg_ B r) by omega)]; exact lp_X8_takes h hV hL hr (pl (sg_ B r)) 0 true (Nat.zero_add _) (fun _ => by omega))
           | (rw [decide_eq_false (show ¬ L.length = pl (sg_ B r) by omega)]; exact lp_X8_takes h hV hL hr (pl (sg_ B r)) 0 false (Nat.zero_add _) (fun q => by cases q)))
    · skip
      refine X_aload_n (nx := 35) dX8_takes_34 rfl rfl rfl ?_
      refine X_iload_n (nx := 36) dX8_takes_35 rfl rfl rfl ?_
      refine Y_Vi1 (nx := 39) dX8_takes_36 rfl ml_RX8_149 kj_X8_hasRest kv_X8_hasRest (sp_X8_hasRest h hV rfl hr) (by first | assumption | rfl | decide | omega) (by first | assumption | rfl | decide | omega) (by decide) rfl (by first | decide | omega) (by exact Nat.le_of_ble_eq_true rfl) ?_
      refine X_if_eq (tgt := 58) (nx := 42) dX8_takes_39 rfl rfl (fun h39 => ?_) (fun h39 => ?_)
      · skip
        rw [hrs] at h39
        refine X_aload_n (nx := 59) dX8_takes_58 rfl rfl rfl ?_
        refine M_getI (nx := 62) dX8_takes_59 rfl fl_RX8_134 rfl (by first | assumption | rfl | decide | omega) (by first | assumption | rfl | decide | omega) ?_
        refine X_top (hL.1) ?_
        refine X_iload_n (nx := 63) dX8_takes_62 rfl rfl rfl ?_
        refine X_icmp_ne (tgt := 70) (nx := 66) dX8_takes_63 rfl rfl (fun h63 => ?_) (fun h63 => ?_)
        · skip
          rw [nI_eq (by omega) (by omega)] at h63
          refine X_iconst (v := 0) (nx := 71) dX8_takes_70 rfl rfl ?_
          refine X_istore_n (i := 3) (nx := 72) dX8_takes_71 rfl rfl (by decide) rfl (st_s (st_s (st_s (st_0)))) ?_
          refine X_iconst (v := nI 0) (nx := 73) dX8_takes_72 rfl rfl ?_
          refine X_istore (i := 4) (nx := 75) dX8_takes_73 rfl (by decide) rfl (st_s (st_s (st_s (st_s (st_0))))) ?_
          first
          | exact absurd (show b2i false = 0 from rfl) h39
          | exact absurd h39 (by decide)
          | (rw [tk_on (by first | (rw [decide_eq_true (show pl (sg_ B r) < (sg_ B r).length from of_decide_eq_true hrs)]; rfl) | (rw [b2i_t.mp h31, Bool.or_true]))]
             first
             | (rw [decide_eq_true (show pl (sg_ B r) ≤ L.length by omega)]; exact lp_X8_takes h hV hL hr (pl (sg_ B r)) 0 true (Nat.zero_add _) (fun _ => by omega))
             | (rw [decide_eq_false (show ¬ pl (sg_ B r) ≤ L.length by omega)]; exact lp_X8_takes h hV hL hr (pl (sg_ B r)) 0 false (Nat.zero_add _) (fun q => by cases q)))
          | (rw [tk_off (by rw [decide_eq_false (show ¬ pl (sg_ B r) < (sg_ B r).length from of_decide_eq_false hrs), b2i_f.mp h31]; decide)]
             first
             | (rw [decide_eq_true (show L.length = pl (sg_ B r) by omega)]; exact lp_X8_takes h hV hL hr (pl (sg_ B r)) 0 true (Nat.zero_add _) (fun _ => by omega))
             | (rw [decide_eq_false (show ¬ L.length = pl (sg_ B r) by omega)]; exact lp_X8_takes h hV hL hr (pl (sg_ B r)) 0 false (Nat.zero_add _) (fun q => by cases q)))
        · skip
          rw [nI_eq (by omega) (by omega)] at h63
          refine X_iconst (v := 1) (nx := 67) dX8_takes_66 rfl rfl ?_
          refine X_goto (tgt := 71) dX8_takes_67 rfl ?_
          refine X_istore_n (i := 3) (nx := 72) dX8_takes_71 rfl rfl (by decide) rfl (st_s (st_s (st_s (st_0)))) ?_
          refine X_iconst (v := nI 0) (nx := 73) dX8_takes_72 rfl rfl ?_
          refine X_istore (i := 4) (nx := 75) dX8_takes_73 rfl (by decide) rfl (st_s (st_s (st_s (st_s (st_0))))) ?_
          first
          | exact absurd (show b2i false = 0 from rfl) h39
          | exact absurd h39 (by decide)
          | (rw [tk_on (by first | (rw [decide_eq_true (show pl (sg_ B r) < (sg_ B r).length from of_decide_eq_true hrs)]; rfl) | (rw [b2i_t.mp h31, Bool.or_true]))]
             first
             | (rw [decide_eq_true (show pl (sg_ B r) ≤ L.length by omega)]; exact lp_X8_takes h hV hL hr (pl (sg_ B r)) 0 true (Nat.zero_add _) (fun _ => by omega))
             | (rw [decide_eq_false (show ¬ pl (sg_ B r) ≤ L.length by omega)]; exact lp_X8_takes h hV hL hr (pl (sg_ B r)) 0 false (Nat.zero_add _) (fun q => by cases q)))
          | (rw [tk_off (by rw [decide_eq_false (show ¬ pl (sg_ B r) < (sg_ B r).length from of_decide_eq_false hrs), b2i_f.mp h31]; decide)]
             first
             | (rw [decide_eq_true (show L.length = pl (sg_ B r) by omega)]; exact lp_X8_takes h hV hL hr (pl (sg_ B r)) 0 true (Nat.zero_add _) (fun _ => by omega))
             | (rw [decide_eq_false (show ¬ L.length = pl (sg_ B r) by omega)]; exact lp_X8_takes h hV hL hr (pl (sg_ B r)) 0 false (Nat.zero_add _) (fun q => by cases q)))
      · skip
        rw [hrs] at h39
        refine X_aload_n (nx := 43) dX8_takes_42 rfl rfl rfl ?_
        refine M_getI (nx := 46) dX8_takes_43 rfl fl_RX8_134 rfl (by first | assumption | rfl | decide | omega) (by first | assumption | rfl | decide | omega) ?_
        refine X_top (hL.1) ?_
        refine X_iload_n (nx := 47) dX8_takes_46 rfl rfl rfl ?_
        refine X_icmp_lt (tgt := 54) (nx := 50) dX8_takes_47 rfl rfl (fun h47 => ?_) (fun h47 => ?_)
        · skip
          rw [nI_ltI (by omega) (by omega)] at h47
          refine X_iconst (v := 0) (nx := 55) dX8_takes_54 rfl rfl ?_
          refine X_goto (tgt := 71) dX8_takes_55 rfl ?_
          refine X_istore_n (i := 3) (nx := 72) dX8_takes_71 rfl rfl (by decide) rfl (st_s (st_s (st_s (st_0)))) ?_
          refine X_iconst (v := nI 0) (nx := 73) dX8_takes_72 rfl rfl ?_
          refine X_istore (i := 4) (nx := 75) dX8_takes_73 rfl (by decide) rfl (st_s (st_s (st_s (st_s (st_0))))) ?_
          first
          | exact absurd (show b2i false = 0 from rfl) h39
          | exact absurd h39 (by decide)
          | (rw [tk_on (by first | (rw [decide_eq_true (show pl (sg_ B r) < (sg_ B r).length from of_decide_eq_true hrs)]; rfl) | (rw [b2i_t.mp h31, Bool.or_true]))]
             first
             | (rw [decide_eq_true (show pl (sg_ B r) ≤ L.length by omega)]; exact lp_X8_takes h hV hL hr (pl (sg_ B r)) 0 true (Nat.zero_add _) (fun _ => by omega))
             | (rw [decide_eq_false (show ¬ pl (sg_ B r) ≤ L.length by omega)]; exact lp_X8_takes h hV hL hr (pl (sg_ B r)) 0 false (Nat.zero_add _) (fun q => by cases q)))
          | (rw [tk_off (by rw [decide_eq_false (show ¬ pl (sg_ B r) < (sg_ B r).length from of_decide_eq_false hrs), b2i_f.mp h31]; decide)]
             first
             | (rw [decide_eq_true (show L.length = pl (sg_ B r) by omega)]; exact lp_X8_takes h hV hL hr (pl (sg_ B r)) 0 true (Nat.zero_add _) (fun _ => by omega))
             | (rw [decide_eq_false (show ¬ L.length = pl (sg_ B r) by omega)]; exact lp_X8_takes h hV hL hr (pl (sg_ B r)) 0 false (Nat.zero_add _) (fun q => by cases q)))
        · skip
          rw [nI_ltI (by omega) (by omega)] at h47
          refine X_iconst (v := 1) (nx := 51) dX8_takes_50 rfl rfl ?_
          refine X_goto (tgt := 71) dX8_takes_51 rfl ?_
          refine X_istore_n (i := 3) (nx := 72) dX8_takes_71 rfl rfl (by decide) rfl (st_s (st_s (st_s (st_0)))) ?_
          refine X_iconst (v := nI 0) (nx := 73) dX8_takes_72 rfl rfl ?_
          refine X_istore (i := 4) (nx := 75) dX8_takes_73 rfl (by decide) rfl (st_s (st_s (st_s (st_s (st_0))))) ?_
          first
          | exact absurd (show b2i false = 0 from rfl) h39
          | exact absurd h39 (by decide)
          | (rw [tk_on (by first | (rw [decide_eq_true (show pl (sg_ B r) < (sg_ B r).length from of_decide_eq_true hrs)]; rfl) | (rw [b2i_t.mp h31, Bool.or_true]))]
             first
             | (rw [decide_eq_true (show pl (sg_ B r) ≤ L.length by omega)]; exact lp_X8_takes h hV hL hr (pl (sg_ B r)) 0 true (Nat.zero_add _) (fun _ => by omega))
             | (rw [decide_eq_false (show ¬ pl (sg_ B r) ≤ L.length by omega)]; exact lp_X8_takes h hV hL hr (pl (sg_ B r)) 0 false (Nat.zero_add _) (fun q => by cases q)))
          | (rw [tk_off (by rw [decide_eq_false (show ¬ pl (sg_ B r) < (sg_ B r).length from of_decide_eq_false hrs), b2i_f.mp h31]; decide)]
             first
             | (rw [decide_eq_true (show L.length = pl (sg_ B r) by omega)]; exact lp_X8_takes h hV hL hr (pl (sg_ B r)) 0 true (Nat.zero_add _) (fun _ => by omega))
             | (rw [decide_eq_false (show ¬ L.length = pl (sg_ B r) by omega)]; exact lp_X8_takes h hV hL hr (pl (sg_ B r)) 0 false (Nat.zero_add _) (fun q => by cases q)))
theorem dX8_witness_0 : decode cX8_witness 0 = .ok (.aload_n 0, 1) := by decide +kernel
theorem dX8_witness_1 : decode cX8_witness 1 = .ok (.iload_n 1, 1) := by decide +kernel
theorem dX8_witness_2 : decode cX8_witness 2 = .ok (.invokevirtual 254, 3) := by decide +kernel
theorem dX8_witness_5 : decode cX8_witness 5 = .ok (.ifCond .eq 16, 3) := by decide +kernel
theorem dX8_witness_8 : decode cX8_witness 8 = .ok (.aload_n 0, 1) := by decide +kernel
theorem dX8_witness_9 : decode cX8_witness 9 = .ok (.iload_n 2, 1) := by decide +kernel
theorem dX8_witness_10 : decode cX8_witness 10 = .ok (.invokevirtual 254, 3) := by decide +kernel
theorem dX8_witness_13 : decode cX8_witness 13 = .ok (.ifCond .eq 8, 3) := by decide +kernel
theorem dX8_witness_16 : decode cX8_witness 16 = .ok (.iload_n 1, 1) := by decide +kernel
theorem dX8_witness_17 : decode cX8_witness 17 = .ok (.iload_n 2, 1) := by decide +kernel
theorem dX8_witness_18 : decode cX8_witness 18 = .ok (.if_icmp .ne 9, 3) := by decide +kernel
theorem dX8_witness_21 : decode cX8_witness 21 = .ok (.aload_n 0, 1) := by decide +kernel
theorem dX8_witness_22 : decode cX8_witness 22 = .ok (.iconst (-1), 1) := by decide +kernel
theorem dX8_witness_23 : decode cX8_witness 23 = .ok (.invokevirtual 211, 3) := by decide +kernel
theorem dX8_witness_26 : decode cX8_witness 26 = .ok (.ireturn, 1) := by decide +kernel
theorem dX8_witness_27 : decode cX8_witness 27 = .ok (.iconst 0, 1) := by decide +kernel
theorem dX8_witness_28 : decode cX8_witness 28 = .ok (.istore_n 3, 1) := by decide +kernel
theorem dX8_witness_29 : decode cX8_witness 29 = .ok (.iload_n 3, 1) := by decide +kernel
theorem dX8_witness_30 : decode cX8_witness 30 = .ok (.sipush 341, 3) := by decide +kernel
theorem dX8_witness_33 : decode cX8_witness 33 = .ok (.if_icmp .ge 32, 3) := by decide +kernel
theorem dX8_witness_36 : decode cX8_witness 36 = .ok (.aload_n 0, 1) := by decide +kernel
theorem dX8_witness_37 : decode cX8_witness 37 = .ok (.iload_n 3, 1) := by decide +kernel
theorem dX8_witness_38 : decode cX8_witness 38 = .ok (.invokevirtual 195, 3) := by decide +kernel
theorem dX8_witness_41 : decode cX8_witness 41 = .ok (.aload_n 0, 1) := by decide +kernel
theorem dX8_witness_42 : decode cX8_witness 42 = .ok (.iload_n 1, 1) := by decide +kernel
theorem dX8_witness_43 : decode cX8_witness 43 = .ok (.invokevirtual 335, 3) := by decide +kernel
theorem dX8_witness_46 : decode cX8_witness 46 = .ok (.ifCond .eq 13, 3) := by decide +kernel
theorem dX8_witness_49 : decode cX8_witness 49 = .ok (.aload_n 0, 1) := by decide +kernel
theorem dX8_witness_50 : decode cX8_witness 50 = .ok (.iload_n 2, 1) := by decide +kernel
theorem dX8_witness_51 : decode cX8_witness 51 = .ok (.invokevirtual 335, 3) := by decide +kernel
theorem dX8_witness_54 : decode cX8_witness 54 = .ok (.ifCond .eq 5, 3) := by decide +kernel
theorem dX8_witness_57 : decode cX8_witness 57 = .ok (.iload_n 3, 1) := by decide +kernel
theorem dX8_witness_58 : decode cX8_witness 58 = .ok (.ireturn, 1) := by decide +kernel
theorem dX8_witness_59 : decode cX8_witness 59 = .ok (.iinc 3 1, 3) := by decide +kernel
theorem dX8_witness_62 : decode cX8_witness 62 = .ok (.goto (-33), 3) := by decide +kernel
theorem dX8_witness_65 : decode cX8_witness 65 = .ok (.bipush (-9), 2) := by decide +kernel
theorem dX8_witness_67 : decode cX8_witness 67 = .ok (.ireturn, 1) := by decide +kernel
theorem lp_X8_witness {S : St} {D : Mem} {a b : Nat} (hw : WF S) (ha : a < cm_ (bk S)) (hb : b < cm_ (bk S)) : ∀ (m : Nat) (i : Nat) (D1 : Mem), i + m = 341 → INV2 D1 S → Fr inR D D1 → X 4 138 j_X8_witness 29 [some (.ref 104), some (.int (nI a)), some (.int (nI b)), some (.int (nI i))] [] (138, P0, D1) (fun x σ => ∃ (u : Int32) (D' : Mem), x = [.int u] ∧ σ = wd D' ∧ CK2 D (opI (fst_ (fun p => tkR S a p && tkR S b p) i m), S) u D') := by
  intro m
  induction m with
  | zero =>
    intro i D1 hi h hf
    refine X_iload_n (nx := 30) dX8_witness_29 rfl rfl rfl ?_
    refine X_sipush (v := nI 341) (nx := 33) dX8_witness_30 rfl rfl ?_
    refine X_icmp_ge (tgt := 65) (nx := 36) dX8_witness_33 rfl rfl (fun h33 => ?_) (fun h33 => ?_)
    · skip
      refine X_bipush (v := -9) (nx := 67) dX8_witness_65 rfl rfl ?_
      exact Z_reti dX8_witness_67 (Or.inl rfl) (ck2_s rfl h hf)
    · exact absurd h33 (fun q => q (nI_le (by omega) (by omega)))
  | succ m ih =>
    intro i D1 hi h hf
    refine X_iload_n (nx := 30) dX8_witness_29 rfl rfl rfl ?_
    refine X_sipush (v := nI 341) (nx := 33) dX8_witness_30 rfl rfl ?_
    refine X_icmp_ge (tgt := 65) (nx := 36) dX8_witness_33 rfl rfl (fun h33 => ?_) (fun h33 => ?_)
    · exact absurd h33 (nI_ge (by omega) (by omega))
    · skip
      refine X_aload_n (nx := 37) dX8_witness_36 rfl rfl rfl ?_
      refine X_iload_n (nx := 38) dX8_witness_37 rfl rfl rfl ?_
      refine Z_Vv1 (nx := 41) dX8_witness_38 rfl ml_RX8_195 kj_X8_opens kv_X8_opens (sp_X8_opens rfl (by omega)) (by first | assumption | rfl | decide | omega) (by first | assumption | rfl | decide | omega) (by decide) rfl (by first | decide | omega) (by exact Nat.le_of_ble_eq_true rfl) (fun D38 g38 => ?_)
      have hi1 := opn_inv h hw g38.2
      refine X_aload_n (nx := 42) dX8_witness_41 rfl rfl rfl ?_
      refine X_iload_n (nx := 43) dX8_witness_42 rfl rfl rfl ?_
      refine Y_Vi1 (nx := 46) dX8_witness_43 rfl ml_RX8_335 kj_X8_takes kv_X8_takes (sp_X8_takes hi1.1.1 hw.1 g38.1 rfl ha) (by first | assumption | rfl | decide | omega) (by first | assumption | rfl | decide | omega) (by decide) rfl (by first | decide | omega) (by exact Nat.le_of_ble_eq_true rfl) ?_
      refine X_if_eq (tgt := 59) (nx := 49) dX8_witness_46 rfl rfl (fun h46 => ?_) (fun h46 => ?_)
      · skip
        have hz : (fun p => tkR S a p && tkR S b p) i = false := by (show (tkR S a i && tkR S b i) = false; rw [show tkR S a i = false from b2i_f.mp h46]; rfl)
        rw [fst_step hz]
        refine X_iinc (nx := 62) dX8_witness_59 rfl (by decide) rfl (by first | exact ii1 _ | rfl) rfl (st_s (st_s (st_s (st_0)))) ?_
        refine X_goto (tgt := 29) dX8_witness_62 rfl ?_
        exact ih (i + 1) D38 (by omega) hi1.1 (hf.tr hi1.2)
      · skip
        refine X_aload_n (nx := 50) dX8_witness_49 rfl rfl rfl ?_
        refine X_iload_n (nx := 51) dX8_witness_50 rfl rfl rfl ?_
        refine Y_Vi1 (nx := 54) dX8_witness_51 rfl ml_RX8_335 kj_X8_takes kv_X8_takes (sp_X8_takes hi1.1.1 hw.1 g38.1 rfl hb) (by first | assumption | rfl | decide | omega) (by first | assumption | rfl | decide | omega) (by decide) rfl (by first | decide | omega) (by exact Nat.le_of_ble_eq_true rfl) ?_
        refine X_if_eq (tgt := 59) (nx := 57) dX8_witness_54 rfl rfl (fun h54 => ?_) (fun h54 => ?_)
        · skip
          have hz : (fun p => tkR S a p && tkR S b p) i = false := by (show (tkR S a i && tkR S b i) = false; rw [show tkR S b i = false from b2i_f.mp h54, Bool.and_false])
          rw [fst_step hz]
          refine X_iinc (nx := 62) dX8_witness_59 rfl (by decide) rfl (by first | exact ii1 _ | rfl) rfl (st_s (st_s (st_s (st_0)))) ?_
          refine X_goto (tgt := 29) dX8_witness_62 rfl ?_
          exact ih (i + 1) D38 (by omega) hi1.1 (hf.tr hi1.2)
        · skip
          have hz : (fun p => tkR S a p && tkR S b p) i = true := by (show (tkR S a i && tkR S b i) = true; rw [show tkR S a i = true from b2i_t.mp h46, show tkR S b i = true from b2i_t.mp h54]; rfl)
          rw [fst_hit hz]
          refine X_iload_n (nx := 58) dX8_witness_57 rfl rfl rfl ?_
          exact Z_reti dX8_witness_58 (Or.inl rfl) (ck2_s rfl hi1.1 (hf.tr hi1.2))
theorem sp_X8_witness {x y : Int32} {S : St} {D : Mem} (h : INV2 D S) (hw : WF S) : Rix 4 j_X8_witness [.ref 104, .int x, .int y] D (fun u D' => CK2 D (m_witness S x y) u D') := by
  refine E.start 1 (ls := [some (.ref 104), some (.int x), some (.int y), none]) (by decide +kernel) (Nat.le_of_ble_eq_true rfl) rfl (Nat.le_refl _) (Nat.le_refl _) ?_
  have hcm := hw.1.2.1
  have hB2 := h.1.2.1
  refine X_aload_n (nx := 1) dX8_witness_0 rfl rfl rfl ?_
  refine X_iload_n (nx := 2) dX8_witness_1 rfl rfl rfl ?_
  refine Y_Vi1 (nx := 5) dX8_witness_2 rfl ml_RX8_254 kj_X8_isRoute kv_X8_isRoute (sp_X8_isRoute h.1 hw.1) (by first | assumption | rfl | decide | omega) (by first | assumption | rfl | decide | omega) (by decide) rfl (by first | decide | omega) (by exact Nat.le_of_ble_eq_true rfl) ?_
  refine X_top (show _ = b2i (isTh (bk S) x) from rfl) ?_
  refine X_if_eq (tgt := 21) (nx := 8) dX8_witness_5 rfl rfl (fun h5 => ?_) (fun h5 => ?_)
  · skip
    have n5 := nb h5
    refine X_aload_n (nx := 22) dX8_witness_21 rfl rfl rfl ?_
    refine X_iconst (v := -1) (nx := 23) dX8_witness_22 rfl rfl ?_
    refine Y_Vi1 (nx := 26) dX8_witness_23 rfl ml_RX8_211 kj_X8_no kv_X8_no (sp_X8_no (k := 1) rfl (by omega) (by omega)) (by first | assumption | rfl | decide | omega) (by first | assumption | rfl | decide | omega) (by decide) rfl (by first | decide | omega) (by exact Nat.le_of_ble_eq_true rfl) ?_
    exact Z_reti dX8_witness_26 (Or.inl rfl) (by unfold m_witness; rw [if_neg (fun q => by first | exact n5 q.1 | exact n13 q.2.1 | exact q.2.2 h18)]; exact ck2_no (k := 1) h Fr.rf (by omega) (by omega))
  · skip
    have c5 := b2i_t.mp h5
    obtain ⟨a, ha, rfl, ta⟩ := isTh_t hcm c5
    have k5 : (nI a).toNatClampNeg = a := nI_clamp (by omega)
    refine X_aload_n (nx := 9) dX8_witness_8 rfl rfl rfl ?_
    refine X_iload_n (nx := 10) dX8_witness_9 rfl rfl rfl ?_
    refine Y_Vi1 (nx := 13) dX8_witness_10 rfl ml_RX8_254 kj_X8_isRoute kv_X8_isRoute (sp_X8_isRoute h.1 hw.1) (by first | assumption | rfl | decide | omega) (by first | assumption | rfl | decide | omega) (by decide) rfl (by first | decide | omega) (by exact Nat.le_of_ble_eq_true rfl) ?_
    refine X_top (show _ = b2i (isTh (bk S) y) from rfl) ?_
    refine X_if_eq (tgt := 21) (nx := 16) dX8_witness_13 rfl rfl (fun h13 => ?_) (fun h13 => ?_)
    · skip
      have n13 := nb h13
      refine X_aload_n (nx := 22) dX8_witness_21 rfl rfl rfl ?_
      refine X_iconst (v := -1) (nx := 23) dX8_witness_22 rfl rfl ?_
      refine Y_Vi1 (nx := 26) dX8_witness_23 rfl ml_RX8_211 kj_X8_no kv_X8_no (sp_X8_no (k := 1) rfl (by omega) (by omega)) (by first | assumption | rfl | decide | omega) (by first | assumption | rfl | decide | omega) (by decide) rfl (by first | decide | omega) (by exact Nat.le_of_ble_eq_true rfl) ?_
      exact Z_reti dX8_witness_26 (Or.inl rfl) (by unfold m_witness; rw [if_neg (fun q => by first | exact n5 q.1 | exact n13 q.2.1 | exact q.2.2 h18)]; exact ck2_no (k := 1) h Fr.rf (by omega) (by omega))
    · skip
      have c13 := b2i_t.mp h13
      obtain ⟨b, hb, rfl, tb⟩ := isTh_t hcm c13
      have k13 : (nI b).toNatClampNeg = b := nI_clamp (by omega)
      refine X_iload_n (nx := 17) dX8_witness_16 rfl rfl rfl ?_
      refine X_iload_n (nx := 18) dX8_witness_17 rfl rfl rfl ?_
      refine X_icmp_ne (tgt := 27) (nx := 21) dX8_witness_18 rfl rfl (fun h18 => ?_) (fun h18 => ?_)
      · skip
        have n18 := h18
        refine X_iconst (v := nI 0) (nx := 28) dX8_witness_27 rfl rfl ?_
        refine X_istore_n (i := 3) (nx := 29) dX8_witness_28 rfl rfl (by decide) rfl (st_s (st_s (st_s (st_0)))) ?_
        (unfold m_witness; rw [if_pos ⟨c5, c13, h18⟩, k5, k13]; exact lp_X8_witness hw ha hb 341 0 D rfl h Fr.rf)
      · skip
        have e18 := h18
        refine X_aload_n (nx := 22) dX8_witness_21 rfl rfl rfl ?_
        refine X_iconst (v := -1) (nx := 23) dX8_witness_22 rfl rfl ?_
        refine Y_Vi1 (nx := 26) dX8_witness_23 rfl ml_RX8_211 kj_X8_no kv_X8_no (sp_X8_no (k := 1) rfl (by omega) (by omega)) (by first | assumption | rfl | decide | omega) (by first | assumption | rfl | decide | omega) (by decide) rfl (by first | decide | omega) (by exact Nat.le_of_ble_eq_true rfl) ?_
        exact Z_reti dX8_witness_26 (Or.inl rfl) (by unfold m_witness; rw [if_neg (fun q => by first | exact n5 q.1 | exact n13 q.2.1 | exact q.2.2 h18)]; exact ck2_no (k := 1) h Fr.rf (by omega) (by omega))
