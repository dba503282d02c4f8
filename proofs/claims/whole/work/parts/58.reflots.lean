/-! THE REFERENCE: lots, route, counts -/
theorem lots_1 {y : Int32} {P : Nat → Bool} {Q : Nat → Nat} {i : Nat} (h : y = 1) : (if y = 0 then nI (cn P i) else nI (sumN Q i)) + nI (Q i) = if y = 0 then nI (cn P (i + 1)) else nI (sumN Q (i + 1)) := by
  subst h; rw [if_neg (by decide), if_neg (by decide)]; exact nI_add _ _
theorem lots_0t {y : Int32} {P : Nat → Bool} {Q : Nat → Nat} {i : Nat} (h : y = 0) (hp : P i = true) : (if y = 0 then nI (cn P i) else nI (sumN Q i)) + 1 = if y = 0 then nI (cn P (i + 1)) else nI (sumN Q (i + 1)) := by
  subst h; rw [if_pos rfl, if_pos rfl]; exact (cn_1 hp).1
theorem lots_0f {y : Int32} {P : Nat → Bool} {Q : Nat → Nat} {i : Nat} (h : y = 0) (hp : P i = false) : (if y = 0 then nI (cn P i) else nI (sumN Q i)) + 0 = if y = 0 then nI (cn P (i + 1)) else nI (sumN Q (i + 1)) := by
  subst h; rw [if_pos rfl, if_pos rfl, Int32.add_zero]; exact congrArg nI (cn_0 hp).1
theorem dX8_draw_0 : decode cX8_draw 0 = .ok (.aload_n 0, 1) := by decide +kernel
theorem dX8_draw_1 : decode cX8_draw 1 = .ok (.aload_n 0, 1) := by decide +kernel
theorem dX8_draw_2 : decode cX8_draw 2 = .ok (.getfield 383, 3) := by decide +kernel
theorem dX8_draw_5 : decode cX8_draw 5 = .ok (.ldc_w 386, 3) := by decide +kernel
theorem dX8_draw_8 : decode cX8_draw 8 = .ok (.imul, 1) := by decide +kernel
theorem dX8_draw_9 : decode cX8_draw 9 = .ok (.ldc_w 387, 3) := by decide +kernel
theorem dX8_draw_12 : decode cX8_draw 12 = .ok (.iadd, 1) := by decide +kernel
theorem dX8_draw_13 : decode cX8_draw 13 = .ok (.putfield 383, 3) := by decide +kernel
theorem dX8_draw_16 : decode cX8_draw 16 = .ok (.aload_n 0, 1) := by decide +kernel
theorem dX8_draw_17 : decode cX8_draw 17 = .ok (.getfield 383, 3) := by decide +kernel
theorem dX8_draw_20 : decode cX8_draw 20 = .ok (.ldc_w 388, 3) := by decide +kernel
theorem dX8_draw_23 : decode cX8_draw 23 = .ok (.iand, 1) := by decide +kernel
theorem dX8_draw_24 : decode cX8_draw 24 = .ok (.sipush 256, 3) := by decide +kernel
theorem dX8_draw_27 : decode cX8_draw 27 = .ok (.idiv, 1) := by decide +kernel
theorem dX8_draw_28 : decode cX8_draw 28 = .ok (.iload_n 1, 1) := by decide +kernel
theorem dX8_draw_29 : decode cX8_draw 29 = .ok (.irem, 1) := by decide +kernel
theorem dX8_draw_30 : decode cX8_draw 30 = .ok (.ireturn, 1) := by decide +kernel
theorem sp_X8_draw {z x : Int32} {m : Nat} {D : Mem} (h51 : D 104 51 = z) (hx : x = nI m) (h0 : 0 < m) (hm : m < 1000) : Ei 1 j_X8_draw [.ref 104, .int x] D (nI (drN (nxs z) % m)) (up2 D 104 51 (nxs z)) := by
  refine E.start 0 (ls := [some (.ref 104), some (.int x)]) (by decide +kernel) (Nat.le_of_ble_eq_true rfl) rfl (Nat.le_refl _) (Nat.le_refl _) ?_
  subst hx
  refine X_aload_n (nx := 1) dX8_draw_0 rfl rfl rfl ?_
  refine X_aload_n (nx := 2) dX8_draw_1 rfl rfl rfl ?_
  refine M_getI (nx := 5) dX8_draw_2 rfl fl_RX8_383 rfl (by first | assumption | rfl | decide | omega) (by first | assumption | rfl | decide | omega) ?_
  refine X_top (h51) ?_
  refine X_ldcw (nx := 8) dX8_draw_5 rfl ct_RX8_386 ?_
  refine X_imul (nx := 9) dX8_draw_8 rfl ?_
  refine X_ldcw (nx := 12) dX8_draw_9 rfl ct_RX8_387 ?_
  refine X_iadd (nx := 13) dX8_draw_12 rfl ?_
  refine M_putI (nx := 16) dX8_draw_13 rfl fl_RX8_383 rfl rfl (by first | assumption | rfl | decide | omega) (by first | assumption | rfl | decide | omega) ?_
  refine X_aload_n (nx := 17) dX8_draw_16 rfl rfl rfl ?_
  refine M_getI (nx := 20) dX8_draw_17 rfl fl_RX8_383 rfl (by first | assumption | rfl | decide | omega) (by first | assumption | rfl | decide | omega) ?_
  refine X_top (show _ = nxs z from up2_same) ?_
  refine X_ldcw (nx := 23) dX8_draw_20 rfl ct_RX8_388 ?_
  refine X_iand (nx := 24) dX8_draw_23 rfl ?_
  refine X_sipush (v := 256) (nx := 27) dX8_draw_24 rfl rfl ?_
  refine X_idiv (nx := 28) dX8_draw_27 rfl (by decide) ?_
  refine X_iload_n (nx := 29) dX8_draw_28 rfl rfl rfl ?_
  refine X_irem (nx := 30) dX8_draw_29 rfl (nI_ne0 h0 (by omega)) ?_
  refine X_top (drw_rem (nxs z) h0 hm) ?_
  exact Y_reti dX8_draw_30 (Or.inl rfl) rfl rfl
theorem dX8_lots_0 : decode cX8_lots 0 = .ok (.iload_n 1, 1) := by decide +kernel
theorem dX8_lots_1 : decode cX8_lots 1 = .ok (.iconst 1, 1) := by decide +kernel
theorem dX8_lots_2 : decode cX8_lots 2 = .ok (.sipush 200, 3) := by decide +kernel
theorem dX8_lots_5 : decode cX8_lots 5 = .ok (.invokestatic 205, 3) := by decide +kernel
theorem dX8_lots_8 : decode cX8_lots 8 = .ok (.istore 4, 2) := by decide +kernel
theorem dX8_lots_10 : decode cX8_lots 10 = .ok (.iload 4, 2) := by decide +kernel
theorem dX8_lots_12 : decode cX8_lots 12 = .ok (.ifCond .ne 16, 3) := by decide +kernel
theorem dX8_lots_15 : decode cX8_lots 15 = .ok (.iload_n 3, 1) := by decide +kernel
theorem dX8_lots_16 : decode cX8_lots 16 = .ok (.iconst 0, 1) := by decide +kernel
theorem dX8_lots_17 : decode cX8_lots 17 = .ok (.iconst 1, 1) := by decide +kernel
theorem dX8_lots_18 : decode cX8_lots 18 = .ok (.invokestatic 115, 3) := by decide +kernel
theorem dX8_lots_21 : decode cX8_lots 21 = .ok (.ifCond .ne 7, 3) := by decide +kernel
theorem dX8_lots_24 : decode cX8_lots 24 = .ok (.bipush (-2), 2) := by decide +kernel
theorem dX8_lots_26 : decode cX8_lots 26 = .ok (.istore 4, 2) := by decide +kernel
theorem dX8_lots_28 : decode cX8_lots 28 = .ok (.iload 4, 2) := by decide +kernel
theorem dX8_lots_30 : decode cX8_lots 30 = .ok (.ifCond .eq 10, 3) := by decide +kernel
theorem dX8_lots_33 : decode cX8_lots 33 = .ok (.aload_n 0, 1) := by decide +kernel
theorem dX8_lots_34 : decode cX8_lots 34 = .ok (.iload 4, 2) := by decide +kernel
theorem dX8_lots_36 : decode cX8_lots 36 = .ok (.invokevirtual 211, 3) := by decide +kernel
theorem dX8_lots_39 : decode cX8_lots 39 = .ok (.ireturn, 1) := by decide +kernel
theorem dX8_lots_40 : decode cX8_lots 40 = .ok (.aload_n 0, 1) := by decide +kernel
theorem dX8_lots_41 : decode cX8_lots 41 = .ok (.iload_n 2, 1) := by decide +kernel
theorem dX8_lots_42 : decode cX8_lots 42 = .ok (.putfield 383, 3) := by decide +kernel
theorem dX8_lots_45 : decode cX8_lots 45 = .ok (.iconst 0, 1) := by decide +kernel
theorem dX8_lots_46 : decode cX8_lots 46 = .ok (.istore 5, 2) := by decide +kernel
theorem dX8_lots_48 : decode cX8_lots 48 = .ok (.iconst 0, 1) := by decide +kernel
theorem dX8_lots_49 : decode cX8_lots 49 = .ok (.istore 6, 2) := by decide +kernel
theorem dX8_lots_51 : decode cX8_lots 51 = .ok (.iload 6, 2) := by decide +kernel
theorem dX8_lots_53 : decode cX8_lots 53 = .ok (.iload_n 1, 1) := by decide +kernel
theorem dX8_lots_54 : decode cX8_lots 54 = .ok (.if_icmp .ge 58, 3) := by decide +kernel
theorem dX8_lots_57 : decode cX8_lots 57 = .ok (.aload_n 0, 1) := by decide +kernel
theorem dX8_lots_58 : decode cX8_lots 58 = .ok (.sipush 341, 3) := by decide +kernel
theorem dX8_lots_61 : decode cX8_lots 61 = .ok (.invokevirtual 389, 3) := by decide +kernel
theorem dX8_lots_64 : decode cX8_lots 64 = .ok (.istore 7, 2) := by decide +kernel
theorem dX8_lots_66 : decode cX8_lots 66 = .ok (.aload_n 0, 1) := by decide +kernel
theorem dX8_lots_67 : decode cX8_lots 67 = .ok (.iload 7, 2) := by decide +kernel
theorem dX8_lots_69 : decode cX8_lots 69 = .ok (.aload_n 0, 1) := by decide +kernel
theorem dX8_lots_70 : decode cX8_lots 70 = .ok (.iconst 4, 1) := by decide +kernel
theorem dX8_lots_71 : decode cX8_lots 71 = .ok (.invokevirtual 389, 3) := by decide +kernel
theorem dX8_lots_74 : decode cX8_lots 74 = .ok (.invokevirtual 314, 3) := by decide +kernel
theorem dX8_lots_77 : decode cX8_lots 77 = .ok (.istore 8, 2) := by decide +kernel
theorem dX8_lots_79 : decode cX8_lots 79 = .ok (.iload 5, 2) := by decide +kernel
theorem dX8_lots_81 : decode cX8_lots 81 = .ok (.iload_n 3, 1) := by decide +kernel
theorem dX8_lots_82 : decode cX8_lots 82 = .ok (.iconst 1, 1) := by decide +kernel
theorem dX8_lots_83 : decode cX8_lots 83 = .ok (.if_icmp .ne 10, 3) := by decide +kernel
theorem dX8_lots_86 : decode cX8_lots 86 = .ok (.aload_n 0, 1) := by decide +kernel
theorem dX8_lots_87 : decode cX8_lots 87 = .ok (.getfield 137, 3) := by decide +kernel
theorem dX8_lots_90 : decode cX8_lots 90 = .ok (.goto 13, 3) := by decide +kernel
theorem dX8_lots_93 : decode cX8_lots 93 = .ok (.iload 8, 2) := by decide +kernel
theorem dX8_lots_95 : decode cX8_lots 95 = .ok (.ifCond .lt 7, 3) := by decide +kernel
theorem dX8_lots_98 : decode cX8_lots 98 = .ok (.iconst 1, 1) := by decide +kernel
theorem dX8_lots_99 : decode cX8_lots 99 = .ok (.goto 4, 3) := by decide +kernel
theorem dX8_lots_102 : decode cX8_lots 102 = .ok (.iconst 0, 1) := by decide +kernel
theorem dX8_lots_103 : decode cX8_lots 103 = .ok (.iadd, 1) := by decide +kernel
theorem dX8_lots_104 : decode cX8_lots 104 = .ok (.istore 5, 2) := by decide +kernel
theorem dX8_lots_106 : decode cX8_lots 106 = .ok (.iinc 6 1, 3) := by decide +kernel
theorem dX8_lots_109 : decode cX8_lots 109 = .ok (.goto (-58), 3) := by decide +kernel
theorem dX8_lots_112 : decode cX8_lots 112 = .ok (.iload 5, 2) := by decide +kernel
theorem dX8_lots_114 : decode cX8_lots 114 = .ok (.ireturn, 1) := by decide +kernel
theorem lp_X8_lots {S : St} {D : Mem} {n : Nat} {y z w : Int32} (hw : WF S) (hn : n ≤ 200) (hy : y = 0 ∨ y = 1) : ∀ (m : Nat) (i : Nat) (D1 : Mem) (y1 y2 : Option Value), i + m = n → INV2 D1 S → Fr inR D D1 → D1 104 51 = sdN z (2 * i) → X 6 138 j_X8_lots 51 [some (.ref 104), some (.int (nI n)), some (.int z), some (.int y), some (.int w), some (.int (if y = 0 then nI (cn (fun i => (ME S (ltV z i) (ltP z i)).isSome) i) else nI (sumN (fun i => (MT S (ltV z i) (ltP z i)).2) i))), some (.int (nI i)), y1, y2] [] (138, P0, D1) (fun x σ => ∃ (u : Int32) (D' : Mem), x = [.int u] ∧ σ = wd D' ∧ CK2 D ((if y = 0 then nI (cn (fun i => (ME S (ltV z i) (ltP z i)).isSome) n) else nI (sumN (fun i => (MT S (ltV z i) (ltP z i)).2) n)), S) u D') := by
  intro m
  induction m with
  | zero =>
    intro i D1 y1 y2 hi h hf h51
    refine X_iload (nx := 53) dX8_lots_51 rfl rfl ?_
    refine X_iload_n (nx := 54) dX8_lots_53 rfl rfl rfl ?_
    refine X_icmp_ge (tgt := 112) (nx := 57) dX8_lots_54 rfl rfl (fun h54 => ?_) (fun h54 => ?_)
    · skip
      refine X_iload (nx := 114) dX8_lots_112 rfl rfl ?_
      exact Z_reti dX8_lots_114 (Or.inl rfl) (by obtain rfl : i = n := (by omega); exact ck2_s rfl h hf)
    · exact absurd h54 (fun q => q (nI_le (by omega) (by omega)))
  | succ m ih =>
    intro i D1 y1 y2 hi h hf h51
    refine X_iload (nx := 53) dX8_lots_51 rfl rfl ?_
    refine X_iload_n (nx := 54) dX8_lots_53 rfl rfl rfl ?_
    refine X_icmp_ge (tgt := 112) (nx := 57) dX8_lots_54 rfl rfl (fun h54 => ?_) (fun h54 => ?_)
    · exact absurd h54 (nI_ge (by omega) (by omega))
    · skip
      refine X_aload_n (nx := 58) dX8_lots_57 rfl rfl rfl ?_
      refine X_sipush (v := nI 341) (nx := 61) dX8_lots_58 rfl rfl ?_
      refine Y_Vi1 (nx := 64) dX8_lots_61 rfl ml_RX8_389 kj_X8_draw kv_X8_draw (sp_X8_draw (m := 341) h51 rfl (by omega) (by omega)) (by first | assumption | rfl | decide | omega) (by first | assumption | rfl | decide | omega) (by decide) rfl (by first | decide | omega) (by exact Nat.le_of_ble_eq_true rfl) ?_
      refine X_top (show _ = nI (ltP z i) from rfl) ?_
      refine X_istore (i := 7) (nx := 66) dX8_lots_64 rfl (by decide) rfl (st_s (st_s (st_s (st_s (st_s (st_s (st_s (st_0)))))))) ?_
      refine X_aload_n (nx := 67) dX8_lots_66 rfl rfl rfl ?_
      refine X_iload (nx := 69) dX8_lots_67 rfl rfl ?_
      refine X_aload_n (nx := 70) dX8_lots_69 rfl rfl rfl ?_
      refine X_iconst (v := nI 4) (nx := 71) dX8_lots_70 rfl rfl ?_
      refine Y_Vi1 (nx := 74) dX8_lots_71 rfl ml_RX8_389 kj_X8_draw kv_X8_draw (sp_X8_draw (m := 4) up2_same rfl (by omega) (by omega)) (by first | assumption | rfl | decide | omega) (by first | assumption | rfl | decide | omega) (by decide) rfl (by first | decide | omega) (by exact Nat.le_of_ble_eq_true rfl) ?_
      refine X_top (show _ = nI (ltV z i) from rfl) ?_
      have hS2 := scr_inv h hw ((Fq.up (S := SCR) (D := D1) (a := 104) (i := 51) (v := nxs (sdN z (2 * i))) (by unfold SCR; omega)).tr (Fq.up (a := 104) (i := 51) (v := nxs (nxs (sdN z (2 * i)))) (by unfold SCR; omega)))
      refine Z_Vi2 (nx := 77) dX8_lots_74 rfl ml_RX8_314 kj_X8_matchOf kv_X8_matchOf (sp_X8_matchOf hS2.1.1 hw.1 hw.1.1 tle (p := ltP z i) rfl (Nat.mod_lt _ (by decide)) (v := ltV z i) rfl (Nat.mod_lt _ (by decide))) (by first | assumption | rfl | decide | omega) (by first | assumption | rfl | decide | omega) (by decide) rfl (by first | decide | omega) (by exact Nat.le_of_ble_eq_true rfl) (fun u74 D74 g74 => ?_)
      refine X_istore (i := 8) (nx := 79) dX8_lots_77 rfl (by decide) rfl (st_s (st_s (st_s (st_s (st_s (st_s (st_s (st_s (st_0))))))))) ?_
      refine X_iload (nx := 81) dX8_lots_79 rfl rfl ?_
      refine X_iload_n (nx := 82) dX8_lots_81 rfl rfl rfl ?_
      refine X_iconst (v := 1) (nx := 83) dX8_lots_82 rfl rfl ?_
      refine X_icmp_ne (tgt := 93) (nx := 86) dX8_lots_83 rfl rfl (fun h83 => ?_) (fun h83 => ?_)
      · skip
        have hy0 := hy.resolve_right h83
        refine X_iload (nx := 95) dX8_lots_93 rfl rfl ?_
        refine X_if_lt (tgt := 102) (nx := 98) dX8_lots_95 rfl rfl (fun h95 => ?_) (fun h95 => ?_)
        · skip
          refine X_iconst (v := 0) (nx := 103) dX8_lots_102 rfl rfl ?_
          refine X_iadd (nx := 104) dX8_lots_103 rfl ?_
          refine X_top (show _ = (if y = 0 then nI (cn (fun i => (ME S (ltV z i) (ltP z i)).isSome) (i + 1)) else nI (sumN (fun i => (MT S (ltV z i) (ltP z i)).2) (i + 1))) from (by first | exact lots_1 h83 | exact lots_0t (P := (fun i => (ME S (ltV z i) (ltP z i)).isSome)) hy0 (mo_t g74 h95) | exact lots_0f (P := (fun i => (ME S (ltV z i) (ltP z i)).isSome)) hy0 (mo_f g74 h95))) ?_
          refine X_istore (i := 5) (nx := 106) dX8_lots_104 rfl (by decide) rfl (st_s (st_s (st_s (st_s (st_s (st_0)))))) ?_
          refine X_iinc (nx := 109) dX8_lots_106 rfl (by decide) rfl (by first | exact ii1 _ | rfl) rfl (st_s (st_s (st_s (st_s (st_s (st_s (st_0))))))) ?_
          refine X_goto (tgt := 51) dX8_lots_109 rfl ?_
          exact ih (i + 1) D74 _ _ (by omega) (br_inv hS2.1 hw g74).1 ((hf.tr hS2.2).tr (br_inv hS2.1 hw g74).2) (by rw [g74.2.1 104 51 (by unfold SM; omega), up2_same]; rfl)
        · skip
          refine X_iconst (v := 1) (nx := 99) dX8_lots_98 rfl rfl ?_
          refine X_goto (tgt := 103) dX8_lots_99 rfl ?_
          refine X_iadd (nx := 104) dX8_lots_103 rfl ?_
          refine X_top (show _ = (if y = 0 then nI (cn (fun i => (ME S (ltV z i) (ltP z i)).isSome) (i + 1)) else nI (sumN (fun i => (MT S (ltV z i) (ltP z i)).2) (i + 1))) from (by first | exact lots_1 h83 | exact lots_0t (P := (fun i => (ME S (ltV z i) (ltP z i)).isSome)) hy0 (mo_t g74 h95) | exact lots_0f (P := (fun i => (ME S (ltV z i) (ltP z i)).isSome)) hy0 (mo_f g74 h95))) ?_
          refine X_istore (i := 5) (nx := 106) dX8_lots_104 rfl (by decide) rfl (st_s (st_s (st_s (st_s (st_s (st_0)))))) ?_
          refine X_iinc (nx := 109) dX8_lots_106 rfl (by decide) rfl (by first | exact ii1 _ | rfl) rfl (st_s (st_s (st_s (st_s (st_s (st_s (st_0))))))) ?_
          refine X_goto (tgt := 51) dX8_lots_109 rfl ?_
          exact ih (i + 1) D74 _ _ (by omega) (br_inv hS2.1 hw g74).1 ((hf.tr hS2.2).tr (br_inv hS2.1 hw g74).2) (by rw [g74.2.1 104 51 (by unfold SM; omega), up2_same]; rfl)
      · skip
        refine X_aload_n (nx := 87) dX8_lots_86 rfl rfl rfl ?_
        refine M_getI (nx := 90) dX8_lots_87 rfl fl_RX8_137 rfl (by first | assumption | rfl | decide | omega) (by first | assumption | rfl | decide | omega) ?_
        refine X_top (g74.2.2.2.1) ?_
        refine X_goto (tgt := 103) dX8_lots_90 rfl ?_
        refine X_iadd (nx := 104) dX8_lots_103 rfl ?_
        refine X_top (show _ = (if y = 0 then nI (cn (fun i => (ME S (ltV z i) (ltP z i)).isSome) (i + 1)) else nI (sumN (fun i => (MT S (ltV z i) (ltP z i)).2) (i + 1))) from (by first | exact lots_1 h83 | exact lots_0t (P := (fun i => (ME S (ltV z i) (ltP z i)).isSome)) hy0 (mo_t g74 h95) | exact lots_0f (P := (fun i => (ME S (ltV z i) (ltP z i)).isSome)) hy0 (mo_f g74 h95))) ?_
        refine X_istore (i := 5) (nx := 106) dX8_lots_104 rfl (by decide) rfl (st_s (st_s (st_s (st_s (st_s (st_0)))))) ?_
        refine X_iinc (nx := 109) dX8_lots_106 rfl (by decide) rfl (by first | exact ii1 _ | rfl) rfl (st_s (st_s (st_s (st_s (st_s (st_s (st_0))))))) ?_
        refine X_goto (tgt := 51) dX8_lots_109 rfl ?_
        exact ih (i + 1) D74 _ _ (by omega) (br_inv hS2.1 hw g74).1 ((hf.tr hS2.2).tr (br_inv hS2.1 hw g74).2) (by rw [g74.2.1 104 51 (by unfold SM; omega), up2_same]; rfl)
theorem sp_X8_lots {x z y : Int32} {S : St} {D : Mem} (h : INV2 D S) (hw : WF S) : Rix 6 j_X8_lots [.ref 104, .int x, .int z, .int y] D (fun u D' => CK2 D (m_lots S x z y) u D') := by
  refine E.start 5 (ls := [some (.ref 104), some (.int x), some (.int z), some (.int y), none, none, none, none, none]) (by decide +kernel) (Nat.le_of_ble_eq_true rfl) rfl (Nat.le_refl _) (Nat.le_refl _) ?_
  have hcm := hw.1.2.1
  have hB2 := h.1.2.1
  refine X_iload_n (nx := 1) dX8_lots_0 rfl rfl rfl ?_
  refine X_iconst (v := 1) (nx := 2) dX8_lots_1 rfl rfl ?_
  refine X_sipush (v := 200) (nx := 5) dX8_lots_2 rfl rfl ?_
  refine Y_Si3 (nx := 8) dX8_lots_5 rfl ml_RX8_205 kj_X8_beyond ks_X8_beyond (sp_X8_beyond) (by first | decide | omega) (by exact Nat.le_of_ble_eq_true rfl) ?_
  by_cases q1 : x < 1
  · rw [if_pos q1]
    refine X_istore (i := 4) (nx := 10) dX8_lots_8 rfl (by decide) rfl (st_s (st_s (st_s (st_s (st_0))))) ?_
    refine X_iload (nx := 12) dX8_lots_10 rfl rfl ?_
    refine X_if_ne (tgt := 28) (nx := 15) dX8_lots_12 rfl rfl (fun h12 => ?_) (fun h12 => ?_)
    · skip
      refine X_iload (nx := 30) dX8_lots_28 rfl rfl ?_
      refine X_if_eq (tgt := 40) (nx := 33) dX8_lots_30 rfl rfl (fun h30 => ?_) (fun h30 => ?_)
      · exact absurd h30 (by decide)
      · skip
        refine X_aload_n (nx := 34) dX8_lots_33 rfl rfl rfl ?_
        refine X_iload (nx := 36) dX8_lots_34 rfl rfl ?_
        refine Y_Vi1 (nx := 39) dX8_lots_36 rfl ml_RX8_211 kj_X8_no kv_X8_no (by first | exact sp_X8_no (k := 4) rfl (by omega) (by omega) | exact sp_X8_no (k := 6) rfl (by omega) (by omega) | exact sp_X8_no (k := 2) rfl (by omega) (by omega)) (by first | assumption | rfl | decide | omega) (by first | assumption | rfl | decide | omega) (by decide) rfl (by first | decide | omega) (by exact Nat.le_of_ble_eq_true rfl) ?_
        exact Z_reti dX8_lots_39 (Or.inl rfl) (by
          unfold m_lots
          first
          | (rw [if_pos q1]; exact ck2_no (k := 4) h Fr.rf (by omega) (by omega))
          | (rw [if_neg q1, if_pos q2]; exact ck2_no (k := 6) h Fr.rf (by omega) (by omega))
          | (rw [if_neg q1, if_neg q2, if_neg n21]; exact ck2_no (k := 2) h Fr.rf (by omega) (by omega)))
    · exact absurd h12 (by decide)
  · rw [if_neg q1]
    by_cases q2 : 200 < x
    · rw [if_pos q2]
      refine X_istore (i := 4) (nx := 10) dX8_lots_8 rfl (by decide) rfl (st_s (st_s (st_s (st_s (st_0))))) ?_
      refine X_iload (nx := 12) dX8_lots_10 rfl rfl ?_
      refine X_if_ne (tgt := 28) (nx := 15) dX8_lots_12 rfl rfl (fun h12 => ?_) (fun h12 => ?_)
      · skip
        refine X_iload (nx := 30) dX8_lots_28 rfl rfl ?_
        refine X_if_eq (tgt := 40) (nx := 33) dX8_lots_30 rfl rfl (fun h30 => ?_) (fun h30 => ?_)
        · exact absurd h30 (by decide)
        · skip
          refine X_aload_n (nx := 34) dX8_lots_33 rfl rfl rfl ?_
          refine X_iload (nx := 36) dX8_lots_34 rfl rfl ?_
          refine Y_Vi1 (nx := 39) dX8_lots_36 rfl ml_RX8_211 kj_X8_no kv_X8_no (by first | exact sp_X8_no (k := 4) rfl (by omega) (by omega) | exact sp_X8_no (k := 6) rfl (by omega) (by omega) | exact sp_X8_no (k := 2) rfl (by omega) (by omega)) (by first | assumption | rfl | decide | omega) (by first | assumption | rfl | decide | omega) (by decide) rfl (by first | decide | omega) (by exact Nat.le_of_ble_eq_true rfl) ?_
          exact Z_reti dX8_lots_39 (Or.inl rfl) (by
            unfold m_lots
            first
            | (rw [if_pos q1]; exact ck2_no (k := 4) h Fr.rf (by omega) (by omega))
            | (rw [if_neg q1, if_pos q2]; exact ck2_no (k := 6) h Fr.rf (by omega) (by omega))
            | (rw [if_neg q1, if_neg q2, if_neg n21]; exact ck2_no (k := 2) h Fr.rf (by omega) (by omega)))
      · exact absurd h12 (by decide)
    · rw [if_neg q2]
      refine X_istore (i := 4) (nx := 10) dX8_lots_8 rfl (by decide) rfl (st_s (st_s (st_s (st_s (st_0))))) ?_
      refine X_iload (nx := 12) dX8_lots_10 rfl rfl ?_
      refine X_if_ne (tgt := 28) (nx := 15) dX8_lots_12 rfl rfl (fun h12 => ?_) (fun h12 => ?_)
      · exact absurd h12 (by decide)
      · skip
        refine X_iload_n (nx := 16) dX8_lots_15 rfl rfl rfl ?_
        refine X_iconst (v := 0) (nx := 17) dX8_lots_16 rfl rfl ?_
        refine X_iconst (v := 1) (nx := 18) dX8_lots_17 rfl rfl ?_
        refine Y_Si3 (nx := 21) dX8_lots_18 rfl ml_RX8_115 kj_X8_isIn ks_X8_isIn (sp_X8_isIn) (by first | decide | omega) (by exact Nat.le_of_ble_eq_true rfl) ?_
        refine X_top (congrArg b2i d01) ?_
        refine X_if_ne (tgt := 28) (nx := 24) dX8_lots_21 rfl rfl (fun h21 => ?_) (fun h21 => ?_)
        · skip
          have c21 := b2i_t.mp h21
          refine X_iload (nx := 30) dX8_lots_28 rfl rfl ?_
          refine X_if_eq (tgt := 40) (nx := 33) dX8_lots_30 rfl rfl (fun h30 => ?_) (fun h30 => ?_)
          · skip
            refine X_aload_n (nx := 41) dX8_lots_40 rfl rfl rfl ?_
            refine X_iload_n (nx := 42) dX8_lots_41 rfl rfl rfl ?_
            refine M_putI (nx := 45) dX8_lots_42 rfl fl_RX8_383 rfl rfl (by first | assumption | rfl | decide | omega) (by first | assumption | rfl | decide | omega) ?_
            refine X_iconst (v := 0) (nx := 46) dX8_lots_45 rfl rfl ?_
            refine X_istore (i := 5) (nx := 48) dX8_lots_46 rfl (by decide) rfl (st_s (st_s (st_s (st_s (st_s (st_0)))))) ?_
            refine X_iconst (v := 0) (nx := 49) dX8_lots_48 rfl rfl ?_
            refine X_istore (i := 6) (nx := 51) dX8_lots_49 rfl (by decide) rfl (st_s (st_s (st_s (st_s (st_s (st_s (st_0))))))) ?_
            (unfold m_lots
             obtain ⟨n, hn, rfl⟩ := ex_nI (x := x) (N := 201) (n := 201) rfl (by decide) ⟨Int32.le_trans (by decide) (Int32.not_lt.mp q1), Int32.lt_of_le_of_lt (Int32.not_lt.mp q2) (by decide)⟩
             rw [if_neg q1, if_neg q2, if_pos c21, nI_clamp (by omega)]
             have hx := scr_inv h hw (Fq.up (D := D) (a := 104) (i := 51) (v := z) (by unfold SCR; omega))
             have e := lp_X8_lots (z := z) (w := 0) hw (by omega) (of_decide_eq_true c21) n 0 (up2 D 104 51 z) none none (Nat.zero_add _) hx.1 hx.2 up2_same
             rw [show (if y = 0 then nI (cn (fun i => (ME S (ltV z i) (ltP z i)).isSome) 0) else nI (sumN (fun i => (MT S (ltV z i) (ltP z i)).2) 0)) = 0 from by split <;> rfl] at e
             exact e)
          · exact absurd h30 (by decide)
        · skip
          have n21 := nb h21
          refine X_bipush (v := -2) (nx := 26) dX8_lots_24 rfl rfl ?_
          refine X_istore (i := 4) (nx := 28) dX8_lots_26 rfl (by decide) rfl (st_s (st_s (st_s (st_s (st_0))))) ?_
          refine X_iload (nx := 30) dX8_lots_28 rfl rfl ?_
          refine X_if_eq (tgt := 40) (nx := 33) dX8_lots_30 rfl rfl (fun h30 => ?_) (fun h30 => ?_)
          · exact absurd h30 (by decide)
          · skip
            refine X_aload_n (nx := 34) dX8_lots_33 rfl rfl rfl ?_
            refine X_iload (nx := 36) dX8_lots_34 rfl rfl ?_
            refine Y_Vi1 (nx := 39) dX8_lots_36 rfl ml_RX8_211 kj_X8_no kv_X8_no (by first | exact sp_X8_no (k := 4) rfl (by omega) (by omega) | exact sp_X8_no (k := 6) rfl (by omega) (by omega) | exact sp_X8_no (k := 2) rfl (by omega) (by omega)) (by first | assumption | rfl | decide | omega) (by first | assumption | rfl | decide | omega) (by decide) rfl (by first | decide | omega) (by exact Nat.le_of_ble_eq_true rfl) ?_
            exact Z_reti dX8_lots_39 (Or.inl rfl) (by
              unfold m_lots
              first
              | (rw [if_pos q1]; exact ck2_no (k := 4) h Fr.rf (by omega) (by omega))
              | (rw [if_neg q1, if_pos q2]; exact ck2_no (k := 6) h Fr.rf (by omega) (by omega))
              | (rw [if_neg q1, if_neg q2, if_neg n21]; exact ck2_no (k := 2) h Fr.rf (by omega) (by omega)))
def smP (B : Bk) (T : Nat → Bool) : Nat → Bool := fun r => T r && mtB B r
theorem smP_mkn {B : Bk} (hV : VB B) : mkn (smP B (th_ B)) (cm_ B) = mkn (fun i => thN B i && mtB B i) 10 := by
  rw [mkn_cm hV.2.1]
  refine mkn_congr (fun r _ => ?_)
  unfold smP thN
  rw [Bool.and_assoc]
def asF (B : Bk) (T : Nat → Bool) : Nat → Nat := fun r => if T r = true then (sg_ B r).length else 0
theorem sumN_ext {f g : Nat → Nat} {c : Nat} : ∀ n, c ≤ n → (∀ k, k < c → f k = g k) → (∀ k, c ≤ k → k < n → g k = 0) → sumN f c = sumN g n := by
  intro n
  induction n with
  | zero =>
    intro hc _ _
    obtain rfl : c = 0 := Nat.le_zero.mp hc
    rfl
  | succ n ih =>
    intro hc h1 h2
    by_cases e : c = n + 1
    · subst e
      have : ∀ m, m ≤ n + 1 → sumN f m = sumN g m := by
        intro m
        induction m with
        | zero => intro _; rfl
        | succ m ihm => intro hm; show sumN f m + f m = sumN g m + g m; rw [ihm (by omega), h1 m (by omega)]
      exact this _ (Nat.le_refl _)
    · show _ = sumN g n + g n
      rw [h2 n (by omega) (by omega), Nat.add_zero]
      exact ih (by omega) h1 (fun k a b => h2 k a (by omega))
theorem asF_sum {B : Bk} (hV : VB B) : sumN (asF B (th_ B)) (cm_ B) = sumN (sgs B) 10 := by
  refine sumN_ext 10 hV.2.1 (fun k hk => ?_) (fun k hk _ => ?_)
  · unfold asF sgs thN
    rw [decide_eq_true hk, Bool.true_and]
  · unfold sgs thN
    rw [decide_eq_false (by omega : ¬ k < cm_ B)]; rfl
theorem dX8_setMounts_0 : decode cX8_setMounts 0 = .ok (.iconst 0, 1) := by decide +kernel
theorem dX8_setMounts_1 : decode cX8_setMounts 1 = .ok (.istore_n 1, 1) := by decide +kernel
theorem dX8_setMounts_2 : decode cX8_setMounts 2 = .ok (.iconst 0, 1) := by decide +kernel
theorem dX8_setMounts_3 : decode cX8_setMounts 3 = .ok (.istore_n 2, 1) := by decide +kernel
theorem dX8_setMounts_4 : decode cX8_setMounts 4 = .ok (.iload_n 2, 1) := by decide +kernel
theorem dX8_setMounts_5 : decode cX8_setMounts 5 = .ok (.aload_n 0, 1) := by decide +kernel
theorem dX8_setMounts_6 : decode cX8_setMounts 6 = .ok (.getfield 109, 3) := by decide +kernel
theorem dX8_setMounts_9 : decode cX8_setMounts 9 = .ok (.if_icmp .ge 37, 3) := by decide +kernel
theorem dX8_setMounts_12 : decode cX8_setMounts 12 = .ok (.iload_n 1, 1) := by decide +kernel
theorem dX8_setMounts_13 : decode cX8_setMounts 13 = .ok (.aload_n 0, 1) := by decide +kernel
theorem dX8_setMounts_14 : decode cX8_setMounts 14 = .ok (.getfield 19, 3) := by decide +kernel
theorem dX8_setMounts_17 : decode cX8_setMounts 17 = .ok (.iload_n 2, 1) := by decide +kernel
theorem dX8_setMounts_18 : decode cX8_setMounts 18 = .ok (.iaload, 1) := by decide +kernel
theorem dX8_setMounts_19 : decode cX8_setMounts 19 = .ok (.iconst 1, 1) := by decide +kernel
theorem dX8_setMounts_20 : decode cX8_setMounts 20 = .ok (.if_icmp .ne 17, 3) := by decide +kernel
theorem dX8_setMounts_23 : decode cX8_setMounts 23 = .ok (.aload_n 0, 1) := by decide +kernel
theorem dX8_setMounts_24 : decode cX8_setMounts 24 = .ok (.iload_n 2, 1) := by decide +kernel
theorem dX8_setMounts_25 : decode cX8_setMounts 25 = .ok (.invokevirtual 127, 3) := by decide +kernel
theorem dX8_setMounts_28 : decode cX8_setMounts 28 = .ok (.ifCond .eq 9, 3) := by decide +kernel
theorem dX8_setMounts_31 : decode cX8_setMounts 31 = .ok (.iconst 1, 1) := by decide +kernel
theorem dX8_setMounts_32 : decode cX8_setMounts 32 = .ok (.iload_n 2, 1) := by decide +kernel
theorem dX8_setMounts_33 : decode cX8_setMounts 33 = .ok (.ishl, 1) := by decide +kernel
theorem dX8_setMounts_34 : decode cX8_setMounts 34 = .ok (.goto 4, 3) := by decide +kernel
theorem dX8_setMounts_37 : decode cX8_setMounts 37 = .ok (.iconst 0, 1) := by decide +kernel
theorem dX8_setMounts_38 : decode cX8_setMounts 38 = .ok (.ior, 1) := by decide +kernel
theorem dX8_setMounts_39 : decode cX8_setMounts 39 = .ok (.istore_n 1, 1) := by decide +kernel
theorem dX8_setMounts_40 : decode cX8_setMounts 40 = .ok (.iinc 2 1, 3) := by decide +kernel
theorem dX8_setMounts_43 : decode cX8_setMounts 43 = .ok (.goto (-39), 3) := by decide +kernel
theorem dX8_setMounts_46 : decode cX8_setMounts 46 = .ok (.iload_n 1, 1) := by decide +kernel
theorem dX8_setMounts_47 : decode cX8_setMounts 47 = .ok (.ireturn, 1) := by decide +kernel
theorem lp_X8_setMounts {B : Bk} {T : Nat → Bool} {K F : Nat → Nat} {D : Mem} (h : RB D B T K F) (hV : VB B) : ∀ (m : Nat) (i : Nat), i + m = cm_ B → X 2 138 j_X8_setMounts 4 [some (.ref 104), some (.int (nI (mkn (smP B T) i))), some (.int (nI i))] [] (138, P0, D) (fun x σ => x = [.int (nI (mkn (smP B T) (cm_ B)))] ∧ σ = wd D) := by
  intro m
  induction m with
  | zero =>
    intro i hi
    obtain ⟨hB1, hB2, hB3⟩ := id h
    have hcm := hV.2.1
    refine X_iload_n (nx := 5) dX8_setMounts_4 rfl rfl rfl ?_
    refine X_aload_n (nx := 6) dX8_setMounts_5 rfl rfl rfl ?_
    refine M_getI (nx := 9) dX8_setMounts_6 rfl fl_RX8_109 rfl (by first | assumption | rfl | decide | omega) (by first | assumption | rfl | decide | omega) ?_
    refine X_top (hB2) ?_
    refine X_icmp_ge (tgt := 46) (nx := 12) dX8_setMounts_9 rfl rfl (fun h9 => ?_) (fun h9 => ?_)
    · skip
      refine X_iload_n (nx := 47) dX8_setMounts_46 rfl rfl rfl ?_
      exact Y_reti dX8_setMounts_47 (Or.inl rfl) (by rw [show i = cm_ B by omega]) rfl
    · exact absurd h9 (fun q => q (nI_le (by omega) (by omega)))
  | succ m ih =>
    intro i hi
    obtain ⟨hB1, hB2, hB3⟩ := id h
    have hcm := hV.2.1
    refine X_iload_n (nx := 5) dX8_setMounts_4 rfl rfl rfl ?_
    refine X_aload_n (nx := 6) dX8_setMounts_5 rfl rfl rfl ?_
    refine M_getI (nx := 9) dX8_setMounts_6 rfl fl_RX8_109 rfl (by first | assumption | rfl | decide | omega) (by first | assumption | rfl | decide | omega) ?_
    refine X_top (hB2) ?_
    refine X_icmp_ge (tgt := 46) (nx := 12) dX8_setMounts_9 rfl rfl (fun h9 => ?_) (fun h9 => ?_)
    · exact absurd h9 (nI_ge (by omega) (by omega))
    · skip
      refine X_iload_n (nx := 13) dX8_setMounts_12 rfl rfl rfl ?_
      refine X_aload_n (nx := 14) dX8_setMounts_13 rfl rfl rfl ?_
      refine M_getP (nx := 17) dX8_setMounts_14 rfl fl_RX8_19 rfl (by first | assumption | rfl | decide | omega) (by first | assumption | rfl | decide | omega) (by first | assumption | rfl | decide | omega) ?_
      refine X_iload_n (nx := 18) dX8_setMounts_17 rfl rfl rfl ?_
      refine M_ld (a := 108) (L := 10) (nx := 19) dX8_setMounts_18 rfl (by decide) (by decide) rfl (by decide) (by omega) ((hB3 i (by omega)).1) ?_
      refine X_iconst (v := 1) (nx := 20) dX8_setMounts_19 rfl rfl ?_
      refine X_icmp_ne (tgt := 37) (nx := 23) dX8_setMounts_20 rfl rfl (fun h20 => ?_) (fun h20 => ?_)
      · skip
        have hz : smP B T i = false := by unfold smP; cases hT : T i; rfl; exact absurd (b2i_1.mpr hT) h20
        refine X_iconst (v := 0) (nx := 38) dX8_setMounts_37 rfl rfl ?_
        refine X_ior (nx := 39) dX8_setMounts_38 rfl ?_
        refine X_top (show _ = nI (mkn (smP B T) (i + 1)) from (by first | exact ior_step hz (by omega) | exact or_f hz)) ?_
        refine X_istore_n (i := 1) (nx := 40) dX8_setMounts_39 rfl rfl (by decide) rfl (st_s (st_0)) ?_
        refine X_iinc (nx := 43) dX8_setMounts_40 rfl (by decide) rfl (by first | exact ii1 _ | rfl) rfl (st_s (st_s (st_0))) ?_
        refine X_goto (tgt := 4) dX8_setMounts_43 rfl ?_
        exact ih (i + 1) (by omega)
      · skip
        refine X_aload_n (nx := 24) dX8_setMounts_23 rfl rfl rfl ?_
        refine X_iload_n (nx := 25) dX8_setMounts_24 rfl rfl rfl ?_
        refine Y_Vi1 (nx := 28) dX8_setMounts_25 rfl ml_RX8_127 kj_X8_isMount kv_X8_isMount (sp_X8_isMount h hV rfl (by omega)) (by first | assumption | rfl | decide | omega) (by first | assumption | rfl | decide | omega) (by decide) rfl (by first | decide | omega) (by exact Nat.le_of_ble_eq_true rfl) ?_
        refine X_if_eq (tgt := 37) (nx := 31) dX8_setMounts_28 rfl rfl (fun h28 => ?_) (fun h28 => ?_)
        · skip
          have hz : smP B T i = false := by unfold smP; rw [b2i_f.mp h28]; simp
          refine X_iconst (v := 0) (nx := 38) dX8_setMounts_37 rfl rfl ?_
          refine X_ior (nx := 39) dX8_setMounts_38 rfl ?_
          refine X_top (show _ = nI (mkn (smP B T) (i + 1)) from (by first | exact ior_step hz (by omega) | exact or_f hz)) ?_
          refine X_istore_n (i := 1) (nx := 40) dX8_setMounts_39 rfl rfl (by decide) rfl (st_s (st_0)) ?_
          refine X_iinc (nx := 43) dX8_setMounts_40 rfl (by decide) rfl (by first | exact ii1 _ | rfl) rfl (st_s (st_s (st_0))) ?_
          refine X_goto (tgt := 4) dX8_setMounts_43 rfl ?_
          exact ih (i + 1) (by omega)
        · skip
          have hz : smP B T i = true := by unfold smP; rw [b2i_t.mp h28, b2i_1.mp h20]; rfl
          refine X_iconst (v := 1) (nx := 32) dX8_setMounts_31 rfl rfl ?_
          refine X_iload_n (nx := 33) dX8_setMounts_32 rfl rfl rfl ?_
          refine X_ishl (nx := 34) dX8_setMounts_33 rfl ?_
          refine X_goto (tgt := 38) dX8_setMounts_34 rfl ?_
          refine X_ior (nx := 39) dX8_setMounts_38 rfl ?_
          refine X_top (show _ = nI (mkn (smP B T) (i + 1)) from (by first | exact ior_step hz (by omega) | exact or_f hz)) ?_
          refine X_istore_n (i := 1) (nx := 40) dX8_setMounts_39 rfl rfl (by decide) rfl (st_s (st_0)) ?_
          refine X_iinc (nx := 43) dX8_setMounts_40 rfl (by decide) rfl (by first | exact ii1 _ | rfl) rfl (st_s (st_s (st_0))) ?_
          refine X_goto (tgt := 4) dX8_setMounts_43 rfl ?_
          exact ih (i + 1) (by omega)
theorem sp_X8_setMounts {B : Bk} {T : Nat → Bool} {K F : Nat → Nat} {D : Mem} (h : RB D B T K F) (hV : VB B) : Ei 2 j_X8_setMounts [.ref 104] D (nI (mkn (smP B T) (cm_ B))) (D) := by
  refine E.start 2 (ls := [some (.ref 104), none, none]) (by decide +kernel) (Nat.le_of_ble_eq_true rfl) rfl (Nat.le_refl _) (Nat.le_refl _) ?_
  refine X_iconst (v := nI 0) (nx := 1) dX8_setMounts_0 rfl rfl ?_
  refine X_istore_n (i := 1) (nx := 2) dX8_setMounts_1 rfl rfl (by decide) rfl (st_s (st_0)) ?_
  refine X_iconst (v := nI 0) (nx := 3) dX8_setMounts_2 rfl rfl ?_
  refine X_istore_n (i := 2) (nx := 4) dX8_setMounts_3 rfl rfl (by decide) rfl (st_s (st_s (st_0))) ?_
  exact lp_X8_setMounts h hV (cm_ B) 0 (Nat.zero_add _)
theorem dX8_allSegments_0 : decode cX8_allSegments 0 = .ok (.iconst 0, 1) := by decide +kernel
theorem dX8_allSegments_1 : decode cX8_allSegments 1 = .ok (.istore_n 1, 1) := by decide +kernel
theorem dX8_allSegments_2 : decode cX8_allSegments 2 = .ok (.iconst 0, 1) := by decide +kernel
theorem dX8_allSegments_3 : decode cX8_allSegments 3 = .ok (.istore_n 2, 1) := by decide +kernel
theorem dX8_allSegments_4 : decode cX8_allSegments 4 = .ok (.iload_n 2, 1) := by decide +kernel
theorem dX8_allSegments_5 : decode cX8_allSegments 5 = .ok (.aload_n 0, 1) := by decide +kernel
theorem dX8_allSegments_6 : decode cX8_allSegments 6 = .ok (.getfield 109, 3) := by decide +kernel
theorem dX8_allSegments_9 : decode cX8_allSegments 9 = .ok (.if_icmp .ge 32, 3) := by decide +kernel
theorem dX8_allSegments_12 : decode cX8_allSegments 12 = .ok (.iload_n 1, 1) := by decide +kernel
theorem dX8_allSegments_13 : decode cX8_allSegments 13 = .ok (.aload_n 0, 1) := by decide +kernel
theorem dX8_allSegments_14 : decode cX8_allSegments 14 = .ok (.getfield 19, 3) := by decide +kernel
theorem dX8_allSegments_17 : decode cX8_allSegments 17 = .ok (.iload_n 2, 1) := by decide +kernel
theorem dX8_allSegments_18 : decode cX8_allSegments 18 = .ok (.iaload, 1) := by decide +kernel
theorem dX8_allSegments_19 : decode cX8_allSegments 19 = .ok (.iconst 1, 1) := by decide +kernel
theorem dX8_allSegments_20 : decode cX8_allSegments 20 = .ok (.if_icmp .ne 12, 3) := by decide +kernel
theorem dX8_allSegments_23 : decode cX8_allSegments 23 = .ok (.aload_n 0, 1) := by decide +kernel
theorem dX8_allSegments_24 : decode cX8_allSegments 24 = .ok (.getfield 31, 3) := by decide +kernel
theorem dX8_allSegments_27 : decode cX8_allSegments 27 = .ok (.iload_n 2, 1) := by decide +kernel
theorem dX8_allSegments_28 : decode cX8_allSegments 28 = .ok (.iaload, 1) := by decide +kernel
theorem dX8_allSegments_29 : decode cX8_allSegments 29 = .ok (.goto 4, 3) := by decide +kernel
theorem dX8_allSegments_32 : decode cX8_allSegments 32 = .ok (.iconst 0, 1) := by decide +kernel
theorem dX8_allSegments_33 : decode cX8_allSegments 33 = .ok (.iadd, 1) := by decide +kernel
theorem dX8_allSegments_34 : decode cX8_allSegments 34 = .ok (.istore_n 1, 1) := by decide +kernel
theorem dX8_allSegments_35 : decode cX8_allSegments 35 = .ok (.iinc 2 1, 3) := by decide +kernel
theorem dX8_allSegments_38 : decode cX8_allSegments 38 = .ok (.goto (-34), 3) := by decide +kernel
theorem dX8_allSegments_41 : decode cX8_allSegments 41 = .ok (.iload_n 1, 1) := by decide +kernel
theorem dX8_allSegments_42 : decode cX8_allSegments 42 = .ok (.ireturn, 1) := by decide +kernel
theorem lp_X8_allSegments {B : Bk} {T : Nat → Bool} {K F : Nat → Nat} {D : Mem} (h : RB D B T K F) (hV : VB B) : ∀ (m : Nat) (i : Nat), i + m = cm_ B → X 1 138 j_X8_allSegments 4 [some (.ref 104), some (.int (nI (sumN (asF B T) i))), some (.int (nI i))] [] (138, P0, D) (fun x σ => x = [.int (nI (sumN (asF B T) (cm_ B)))] ∧ σ = wd D) := by
  intro m
  induction m with
  | zero =>
    intro i hi
    obtain ⟨hB1, hB2, hB3⟩ := id h
    have hcm := hV.2.1
    refine X_iload_n (nx := 5) dX8_allSegments_4 rfl rfl rfl ?_
    refine X_aload_n (nx := 6) dX8_allSegments_5 rfl rfl rfl ?_
    refine M_getI (nx := 9) dX8_allSegments_6 rfl fl_RX8_109 rfl (by first | assumption | rfl | decide | omega) (by first | assumption | rfl | decide | omega) ?_
    refine X_top (hB2) ?_
    refine X_icmp_ge (tgt := 41) (nx := 12) dX8_allSegments_9 rfl rfl (fun h9 => ?_) (fun h9 => ?_)
    · skip
      refine X_iload_n (nx := 42) dX8_allSegments_41 rfl rfl rfl ?_
      exact Y_reti dX8_allSegments_42 (Or.inl rfl) (by rw [show i = cm_ B by omega]) rfl
    · exact absurd h9 (fun q => q (nI_le (by omega) (by omega)))
  | succ m ih =>
    intro i hi
    obtain ⟨hB1, hB2, hB3⟩ := id h
    have hcm := hV.2.1
    refine X_iload_n (nx := 5) dX8_allSegments_4 rfl rfl rfl ?_
    refine X_aload_n (nx := 6) dX8_allSegments_5 rfl rfl rfl ?_
    refine M_getI (nx := 9) dX8_allSegments_6 rfl fl_RX8_109 rfl (by first | assumption | rfl | decide | omega) (by first | assumption | rfl | decide | omega) ?_
    refine X_top (hB2) ?_
    refine X_icmp_ge (tgt := 41) (nx := 12) dX8_allSegments_9 rfl rfl (fun h9 => ?_) (fun h9 => ?_)
    · exact absurd h9 (nI_ge (by omega) (by omega))
    · skip
      refine X_iload_n (nx := 13) dX8_allSegments_12 rfl rfl rfl ?_
      refine X_aload_n (nx := 14) dX8_allSegments_13 rfl rfl rfl ?_
      refine M_getP (nx := 17) dX8_allSegments_14 rfl fl_RX8_19 rfl (by first | assumption | rfl | decide | omega) (by first | assumption | rfl | decide | omega) (by first | assumption | rfl | decide | omega) ?_
      refine X_iload_n (nx := 18) dX8_allSegments_17 rfl rfl rfl ?_
      refine M_ld (a := 108) (L := 10) (nx := 19) dX8_allSegments_18 rfl (by decide) (by decide) rfl (by decide) (by omega) ((hB3 i (by omega)).1) ?_
      refine X_iconst (v := 1) (nx := 20) dX8_allSegments_19 rfl rfl ?_
      refine X_icmp_ne (tgt := 32) (nx := 23) dX8_allSegments_20 rfl rfl (fun h20 => ?_) (fun h20 => ?_)
      · skip
        have hz : asF B T i = 0 := if_neg (fun q => h20 (b2i_1.mpr q))
        refine X_iconst (v := nI 0) (nx := 33) dX8_allSegments_32 rfl rfl ?_
        refine X_iadd (nx := 34) dX8_allSegments_33 rfl ?_
        refine X_top (show _ = nI (sumN (asF B T) (i + 1)) from (nI_add _ _).trans (congrArg nI (by show _ = sumN (asF B T) i + asF B T i; rw [hz]))) ?_
        refine X_istore_n (i := 1) (nx := 35) dX8_allSegments_34 rfl rfl (by decide) rfl (st_s (st_0)) ?_
        refine X_iinc (nx := 38) dX8_allSegments_35 rfl (by decide) rfl (by first | exact ii1 _ | rfl) rfl (st_s (st_s (st_0))) ?_
        refine X_goto (tgt := 4) dX8_allSegments_38 rfl ?_
        exact ih (i + 1) (by omega)
      · skip
        have hz : asF B T i = (sg_ B i).length := if_pos (b2i_1.mp h20)
        refine X_aload_n (nx := 24) dX8_allSegments_23 rfl rfl rfl ?_
        refine M_getP (nx := 27) dX8_allSegments_24 rfl fl_RX8_31 rfl (by first | assumption | rfl | decide | omega) (by first | assumption | rfl | decide | omega) (by first | assumption | rfl | decide | omega) ?_
        refine X_iload_n (nx := 28) dX8_allSegments_27 rfl rfl rfl ?_
        refine M_ld (a := 112) (L := 10) (nx := 29) dX8_allSegments_28 rfl (by decide) (by decide) rfl (by decide) (by omega) ((hB3 i (by omega)).2.2.2.2.1) ?_
        refine X_goto (tgt := 33) dX8_allSegments_29 rfl ?_
        refine X_iadd (nx := 34) dX8_allSegments_33 rfl ?_
        refine X_top (show _ = nI (sumN (asF B T) (i + 1)) from (nI_add _ _).trans (congrArg nI (by show _ = sumN (asF B T) i + asF B T i; rw [hz]))) ?_
        refine X_istore_n (i := 1) (nx := 35) dX8_allSegments_34 rfl rfl (by decide) rfl (st_s (st_0)) ?_
        refine X_iinc (nx := 38) dX8_allSegments_35 rfl (by decide) rfl (by first | exact ii1 _ | rfl) rfl (st_s (st_s (st_0))) ?_
        refine X_goto (tgt := 4) dX8_allSegments_38 rfl ?_
        exact ih (i + 1) (by omega)
theorem sp_X8_allSegments {B : Bk} {T : Nat → Bool} {K F : Nat → Nat} {D : Mem} (h : RB D B T K F) (hV : VB B) : Ei 1 j_X8_allSegments [.ref 104] D (nI (sumN (asF B T) (cm_ B))) (D) := by
  refine E.start 2 (ls := [some (.ref 104), none, none]) (by decide +kernel) (Nat.le_of_ble_eq_true rfl) rfl (Nat.le_refl _) (Nat.le_refl _) ?_
  refine X_iconst (v := nI 0) (nx := 1) dX8_allSegments_0 rfl rfl ?_
  refine X_istore_n (i := 1) (nx := 2) dX8_allSegments_1 rfl rfl (by decide) rfl (st_s (st_0)) ?_
  refine X_iconst (v := nI 0) (nx := 3) dX8_allSegments_2 rfl rfl ?_
  refine X_istore_n (i := 2) (nx := 4) dX8_allSegments_3 rfl rfl (by decide) rfl (st_s (st_s (st_0))) ?_
  exact lp_X8_allSegments h hV (cm_ B) 0 (Nat.zero_add _)
def pbQ (s : List Nat) (k : Nat) : Nat → Bool := fun j => decide (10 ≤ s.getD j 0 ∧ s.getD j 0 < 40) && decide (s.getD j 0 % 10 = k)
def pbP (s : List Nat) (i k : Nat) : Bool := (fst_ (pbQ s k) 0 i).isSome
theorem is_sn {p : Nat → Bool} {n : Nat} : (fst_ p 0 (n + 1)).isSome = ((fst_ p 0 n).isSome || p n) := by
  cases h : fst_ p 0 n with
  | some k => rw [sn_y h]; rfl
  | none =>
    cases hp : p n with
    | true => rw [sn_h h hp]; rfl
    | false => rw [sn_n hp, h]; rfl
theorem pb_y {s : List Nat} {i : Nat} (h : 10 ≤ s.getD i 0 ∧ s.getD i 0 < 40) (h2 : sgv (s.getD i 0)) : nI (mkn (pbP s i) 4) ||| (1 : Int32) <<< (nI (s.getD i 0 % 10) &&& 31) = nI (mkn (pbP s (i + 1)) 4) := by
  have h4 : s.getD i 0 % 10 < 4 := by unfold sgv at h2; omega
  rw [one_shl _ (by omega), nI_or, mkn_or h4]
  congr 1
  refine mkn_congr (fun k _ => ?_)
  show (_ || _) = (fst_ (pbQ s k) 0 (i + 1)).isSome
  rw [is_sn]
  unfold pbQ pbP
  rw [decide_eq_true h, Bool.true_and]
  congr 1
  exact decide_eq_decide.mpr ⟨fun q => q.symm, fun q => q.symm⟩
theorem pb_n {s : List Nat} {i : Nat} (h : ¬ (10 ≤ s.getD i 0 ∧ s.getD i 0 < 40)) : nI (mkn (pbP s i) 4) ||| 0 = nI (mkn (pbP s (i + 1)) 4) := by
  rw [show nI (mkn (pbP s i) 4) ||| 0 = nI (mkn (pbP s i) 4) from (nI_or _ 0).trans (by rw [Nat.or_zero])]
  congr 1
  refine mkn_congr (fun k _ => ?_)
  show _ = (fst_ (pbQ s k) 0 (i + 1)).isSome
  rw [is_sn]
  have : pbQ s k i = false := by unfold pbQ; rw [decide_eq_false h]; rfl
  rw [this, Bool.or_false]; rfl
theorem pb_end {s : List Nat} (h : VS s) : mkn (pbP s s.length) 4 = mkn (fun k => (plOf s k 0 (pl s)).isSome) 4 := by
  refine mkn_congr (fun k _ => ?_)
  unfold pbP plOf
  have e : ∀ j, j < pl s → pbQ s k j = (decide (10 ≤ s.getD j 0) && decide (s.getD j 0 % 10 = k)) := by
    intro j hj
    have h1 := h.plain hj
    unfold pbQ
    congr 1
    have := h1.1
    unfold sgv at this
    exact decide_eq_decide.mpr ⟨fun q => q.1, fun q => ⟨q, by omega⟩⟩
  rw [fst_cut (c := pl s) (pl_le s) (fun x h1 h2 => ?_)]
  · rw [fst_congr (fun x _ hx => e x (by omega))]
  · rcases VS_cut h with q | ⟨q, q2⟩
    · omega
    · rw [show x = pl s by omega]
      unfold pbQ
      rw [q2]; rfl
theorem in39 {n : Nat} (h : n < 1000) : decide ((10 : Int32) ≤ nI n ∧ nI n ≤ 39) = decide (10 ≤ n ∧ n < 40) := by
  refine decide_eq_decide.mpr ⟨fun q => ⟨(nI_leI (a := 10) (by omega) (by omega)).mp q.1, ?_⟩, fun q => ⟨(nI_leI (a := 10) (by omega) (by omega)).mpr q.1, ?_⟩⟩
  · have := (nI_leI (a := n) (b := 39) (by omega) (by omega)).mp q.2; omega
  · exact (nI_leI (a := n) (b := 39) (by omega) (by omega)).mpr (by omega)
theorem dX8_parametersOf_0 : decode cX8_parametersOf 0 = .ok (.iconst 0, 1) := by decide +kernel
theorem dX8_parametersOf_1 : decode cX8_parametersOf 1 = .ok (.istore_n 2, 1) := by decide +kernel
theorem dX8_parametersOf_2 : decode cX8_parametersOf 2 = .ok (.iconst 0, 1) := by decide +kernel
theorem dX8_parametersOf_3 : decode cX8_parametersOf 3 = .ok (.istore_n 3, 1) := by decide +kernel
theorem dX8_parametersOf_4 : decode cX8_parametersOf 4 = .ok (.iload_n 3, 1) := by decide +kernel
theorem dX8_parametersOf_5 : decode cX8_parametersOf 5 = .ok (.aload_n 0, 1) := by decide +kernel
theorem dX8_parametersOf_6 : decode cX8_parametersOf 6 = .ok (.getfield 31, 3) := by decide +kernel
theorem dX8_parametersOf_9 : decode cX8_parametersOf 9 = .ok (.iload_n 1, 1) := by decide +kernel
theorem dX8_parametersOf_10 : decode cX8_parametersOf 10 = .ok (.iaload, 1) := by decide +kernel
theorem dX8_parametersOf_11 : decode cX8_parametersOf 11 = .ok (.if_icmp .ge 47, 3) := by decide +kernel
theorem dX8_parametersOf_14 : decode cX8_parametersOf 14 = .ok (.aload_n 0, 1) := by decide +kernel
theorem dX8_parametersOf_15 : decode cX8_parametersOf 15 = .ok (.getfield 34, 3) := by decide +kernel
theorem dX8_parametersOf_18 : decode cX8_parametersOf 18 = .ok (.iconst 4, 1) := by decide +kernel
theorem dX8_parametersOf_19 : decode cX8_parametersOf 19 = .ok (.iload_n 1, 1) := by decide +kernel
theorem dX8_parametersOf_20 : decode cX8_parametersOf 20 = .ok (.imul, 1) := by decide +kernel
theorem dX8_parametersOf_21 : decode cX8_parametersOf 21 = .ok (.iload_n 3, 1) := by decide +kernel
theorem dX8_parametersOf_22 : decode cX8_parametersOf 22 = .ok (.iadd, 1) := by decide +kernel
theorem dX8_parametersOf_23 : decode cX8_parametersOf 23 = .ok (.iaload, 1) := by decide +kernel
theorem dX8_parametersOf_24 : decode cX8_parametersOf 24 = .ok (.istore 4, 2) := by decide +kernel
theorem dX8_parametersOf_26 : decode cX8_parametersOf 26 = .ok (.iload_n 2, 1) := by decide +kernel
theorem dX8_parametersOf_27 : decode cX8_parametersOf 27 = .ok (.iload 4, 2) := by decide +kernel
theorem dX8_parametersOf_29 : decode cX8_parametersOf 29 = .ok (.bipush 10, 2) := by decide +kernel
theorem dX8_parametersOf_31 : decode cX8_parametersOf 31 = .ok (.bipush 39, 2) := by decide +kernel
theorem dX8_parametersOf_33 : decode cX8_parametersOf 33 = .ok (.invokestatic 115, 3) := by decide +kernel
theorem dX8_parametersOf_36 : decode cX8_parametersOf 36 = .ok (.ifCond .eq 13, 3) := by decide +kernel
theorem dX8_parametersOf_39 : decode cX8_parametersOf 39 = .ok (.iconst 1, 1) := by decide +kernel
theorem dX8_parametersOf_40 : decode cX8_parametersOf 40 = .ok (.iload 4, 2) := by decide +kernel
theorem dX8_parametersOf_42 : decode cX8_parametersOf 42 = .ok (.bipush 10, 2) := by decide +kernel
theorem dX8_parametersOf_44 : decode cX8_parametersOf 44 = .ok (.irem, 1) := by decide +kernel
theorem dX8_parametersOf_45 : decode cX8_parametersOf 45 = .ok (.ishl, 1) := by decide +kernel
theorem dX8_parametersOf_46 : decode cX8_parametersOf 46 = .ok (.goto 4, 3) := by decide +kernel
theorem dX8_parametersOf_49 : decode cX8_parametersOf 49 = .ok (.iconst 0, 1) := by decide +kernel
theorem dX8_parametersOf_50 : decode cX8_parametersOf 50 = .ok (.ior, 1) := by decide +kernel
theorem dX8_parametersOf_51 : decode cX8_parametersOf 51 = .ok (.istore_n 2, 1) := by decide +kernel
theorem dX8_parametersOf_52 : decode cX8_parametersOf 52 = .ok (.iinc 3 1, 3) := by decide +kernel
theorem dX8_parametersOf_55 : decode cX8_parametersOf 55 = .ok (.goto (-51), 3) := by decide +kernel
theorem dX8_parametersOf_58 : decode cX8_parametersOf 58 = .ok (.iload_n 2, 1) := by decide +kernel
theorem dX8_parametersOf_59 : decode cX8_parametersOf 59 = .ok (.ireturn, 1) := by decide +kernel
theorem lp_X8_parametersOf {r : Nat} {B : Bk} {T : Nat → Bool} {K F : Nat → Nat} {D : Mem} (h : RB D B T K F) (hV : VB B) (hr : r < cm_ B) : ∀ (m : Nat) (i : Nat) (o : Option Value), i + m = (sg_ B r).length → X 2 138 j_X8_parametersOf 4 [some (.ref 104), some (.int (nI r)), some (.int (nI (mkn (pbP (sg_ B r) i) 4))), some (.int (nI i)), o] [] (138, P0, D) (fun x σ => x = [.int (nI (mkn (fun k => (plOf (sg_ B r) k 0 (pl (sg_ B r))).isSome) 4))] ∧ σ = wd D) := by
  intro m
  induction m with
  | zero =>
    intro i o hi
    obtain ⟨hB1, hB2, hB3⟩ := id h
    have hcm := hV.2.1
    have hl4 := sgl_le hV hr
    refine X_iload_n (nx := 5) dX8_parametersOf_4 rfl rfl rfl ?_
    refine X_aload_n (nx := 6) dX8_parametersOf_5 rfl rfl rfl ?_
    refine M_getP (nx := 9) dX8_parametersOf_6 rfl fl_RX8_31 rfl (by first | assumption | rfl | decide | omega) (by first | assumption | rfl | decide | omega) (by first | assumption | rfl | decide | omega) ?_
    refine X_iload_n (nx := 10) dX8_parametersOf_9 rfl rfl rfl ?_
    refine M_ld (a := 112) (L := 10) (nx := 11) dX8_parametersOf_10 rfl (by decide) (by decide) rfl (by decide) (by omega) ((hB3 r hr).2.2.2.2.1) ?_
    refine X_icmp_ge (tgt := 58) (nx := 14) dX8_parametersOf_11 rfl rfl (fun h11 => ?_) (fun h11 => ?_)
    · skip
      refine X_iload_n (nx := 59) dX8_parametersOf_58 rfl rfl rfl ?_
      exact Y_reti dX8_parametersOf_59 (Or.inl rfl) (by rw [show i = (sg_ B r).length by omega, pb_end (hV.2.2 r hr).2.1]) rfl
    · exact absurd h11 (fun q => q (nI_le (by omega) (by omega)))
  | succ m ih =>
    intro i o hi
    obtain ⟨hB1, hB2, hB3⟩ := id h
    have hcm := hV.2.1
    have hl4 := sgl_le hV hr
    have hsv := (hV.2.2 r hr).2.1.2.1 _ (getD_in (show i < (sg_ B r).length by omega))
    have hs40 := sgv_le hsv
    refine X_iload_n (nx := 5) dX8_parametersOf_4 rfl rfl rfl ?_
    refine X_aload_n (nx := 6) dX8_parametersOf_5 rfl rfl rfl ?_
    refine M_getP (nx := 9) dX8_parametersOf_6 rfl fl_RX8_31 rfl (by first | assumption | rfl | decide | omega) (by first | assumption | rfl | decide | omega) (by first | assumption | rfl | decide | omega) ?_
    refine X_iload_n (nx := 10) dX8_parametersOf_9 rfl rfl rfl ?_
    refine M_ld (a := 112) (L := 10) (nx := 11) dX8_parametersOf_10 rfl (by decide) (by decide) rfl (by decide) (by omega) ((hB3 r hr).2.2.2.2.1) ?_
    refine X_icmp_ge (tgt := 58) (nx := 14) dX8_parametersOf_11 rfl rfl (fun h11 => ?_) (fun h11 => ?_)
    · exact absurd h11 (nI_ge (by omega) (by omega))
    · skip
      refine X_aload_n (nx := 15) dX8_parametersOf_14 rfl rfl rfl ?_
      refine M_getP (nx := 18) dX8_parametersOf_15 rfl fl_RX8_34 rfl (by first | assumption | rfl | decide | omega) (by first | assumption | rfl | decide | omega) (by first | assumption | rfl | decide | omega) ?_
      refine X_iconst (v := nI 4) (nx := 19) dX8_parametersOf_18 rfl rfl ?_
      refine X_iload_n (nx := 20) dX8_parametersOf_19 rfl rfl rfl ?_
      refine X_imul (nx := 21) dX8_parametersOf_20 rfl ?_
      refine X_top (mul_nI) ?_
      refine X_iload_n (nx := 22) dX8_parametersOf_21 rfl rfl rfl ?_
      refine X_iadd (nx := 23) dX8_parametersOf_22 rfl ?_
      refine X_top (nI_add _ _) ?_
      refine M_ld (a := 113) (L := 40) (nx := 24) dX8_parametersOf_23 rfl (by decide) (by decide) rfl (by decide) (by omega) ((hB3 r hr).2.2.2.2.2 i (by omega)) ?_
      refine X_istore (i := 4) (nx := 26) dX8_parametersOf_24 rfl (by decide) rfl (st_s (st_s (st_s (st_s (st_0))))) ?_
      refine X_iload_n (nx := 27) dX8_parametersOf_26 rfl rfl rfl ?_
      refine X_iload (nx := 29) dX8_parametersOf_27 rfl rfl ?_
      refine X_bipush (v := 10) (nx := 31) dX8_parametersOf_29 rfl rfl ?_
      refine X_bipush (v := 39) (nx := 33) dX8_parametersOf_31 rfl rfl ?_
      refine Y_Si3 (nx := 36) dX8_parametersOf_33 rfl ml_RX8_115 kj_X8_isIn ks_X8_isIn (sp_X8_isIn) (by first | decide | omega) (by exact Nat.le_of_ble_eq_true rfl) ?_
      refine X_top (congrArg b2i (in39 (by omega))) ?_
      refine X_if_eq (tgt := 49) (nx := 39) dX8_parametersOf_36 rfl rfl (fun h36 => ?_) (fun h36 => ?_)
      · skip
        refine X_iconst (v := 0) (nx := 50) dX8_parametersOf_49 rfl rfl ?_
        refine X_ior (nx := 51) dX8_parametersOf_50 rfl ?_
        refine X_top (show _ = nI (mkn (pbP (sg_ B r) (i + 1)) 4) from (by first | exact pb_y (of_decide_eq_true (b2i_t.mp h36)) hsv | exact pb_n (of_decide_eq_false (b2i_f.mp h36)))) ?_
        refine X_istore_n (i := 2) (nx := 52) dX8_parametersOf_51 rfl rfl (by decide) rfl (st_s (st_s (st_0))) ?_
        refine X_iinc (nx := 55) dX8_parametersOf_52 rfl (by decide) rfl (by first | exact ii1 _ | rfl) rfl (st_s (st_s (st_s (st_0)))) ?_
        refine X_goto (tgt := 4) dX8_parametersOf_55 rfl ?_
        exact ih (i + 1) _ (by omega)
      · skip
        refine X_iconst (v := 1) (nx := 40) dX8_parametersOf_39 rfl rfl ?_
        refine X_iload (nx := 42) dX8_parametersOf_40 rfl rfl ?_
        refine X_bipush (v := 10) (nx := 44) dX8_parametersOf_42 rfl rfl ?_
        refine X_irem (nx := 45) dX8_parametersOf_44 rfl (by decide) ?_
        refine X_top (rem10 (by omega)) ?_
        refine X_ishl (nx := 46) dX8_parametersOf_45 rfl ?_
        refine X_goto (tgt := 50) dX8_parametersOf_46 rfl ?_
        refine X_ior (nx := 51) dX8_parametersOf_50 rfl ?_
        refine X_top (show _ = nI (mkn (pbP (sg_ B r) (i + 1)) 4) from (by first | exact pb_y (of_decide_eq_true (b2i_t.mp h36)) hsv | exact pb_n (of_decide_eq_false (b2i_f.mp h36)))) ?_
        refine X_istore_n (i := 2) (nx := 52) dX8_parametersOf_51 rfl rfl (by decide) rfl (st_s (st_s (st_0))) ?_
        refine X_iinc (nx := 55) dX8_parametersOf_52 rfl (by decide) rfl (by first | exact ii1 _ | rfl) rfl (st_s (st_s (st_s (st_0)))) ?_
        refine X_goto (tgt := 4) dX8_parametersOf_55 rfl ?_
        exact ih (i + 1) _ (by omega)
theorem sp_X8_parametersOf {r : Nat} {x : Int32} {B : Bk} {T : Nat → Bool} {K F : Nat → Nat} {D : Mem} (h : RB D B T K F) (hV : VB B) (hx : x = nI r) (hr : r < cm_ B) : Ei 2 j_X8_parametersOf [.ref 104, .int x] D (nI (mkn (fun k => (plOf (sg_ B r) k 0 (pl (sg_ B r))).isSome) 4)) (D) := by
  refine E.start 3 (ls := [some (.ref 104), some (.int x), none, none, none]) (by decide +kernel) (Nat.le_of_ble_eq_true rfl) rfl (Nat.le_refl _) (Nat.le_refl _) ?_
  subst hx
  have e0 : (0 : Int32) = nI (mkn (pbP (sg_ B r) 0) 4) := by rw [show mkn (pbP (sg_ B r) 0) 4 = 0 from rfl]; rfl
  refine X_iconst (v := 0) (nx := 1) dX8_parametersOf_0 rfl rfl ?_
  refine X_top (e0) ?_
  refine X_istore_n (i := 2) (nx := 2) dX8_parametersOf_1 rfl rfl (by decide) rfl (st_s (st_s (st_0))) ?_
  refine X_iconst (v := nI 0) (nx := 3) dX8_parametersOf_2 rfl rfl ?_
  refine X_istore_n (i := 3) (nx := 4) dX8_parametersOf_3 rfl rfl (by decide) rfl (st_s (st_s (st_s (st_0)))) ?_
  exact lp_X8_parametersOf h hV hr (sg_ B r).length 0 none (Nat.zero_add _)
theorem dX8_route_0 : decode cX8_route 0 = .ok (.aload_n 0, 1) := by decide +kernel
theorem dX8_route_1 : decode cX8_route 1 = .ok (.iload_n 1, 1) := by decide +kernel
theorem dX8_route_2 : decode cX8_route 2 = .ok (.invokevirtual 254, 3) := by decide +kernel
theorem dX8_route_5 : decode cX8_route 5 = .ok (.ifCond .ne 9, 3) := by decide +kernel
theorem dX8_route_8 : decode cX8_route 8 = .ok (.aload_n 0, 1) := by decide +kernel
theorem dX8_route_9 : decode cX8_route 9 = .ok (.iconst (-1), 1) := by decide +kernel
theorem dX8_route_10 : decode cX8_route 10 = .ok (.invokevirtual 211, 3) := by decide +kernel
theorem dX8_route_13 : decode cX8_route 13 = .ok (.ireturn, 1) := by decide +kernel
theorem dX8_route_14 : decode cX8_route 14 = .ok (.iload_n 2, 1) := by decide +kernel
theorem dX8_route_15 : decode cX8_route 15 = .ok (.tableswitch 85 0 5 #[37, 44, 51, 58, 65, 71], 37) := by decide +kernel
theorem dX8_route_52 : decode cX8_route 52 = .ok (.aload_n 0, 1) := by decide +kernel
theorem dX8_route_53 : decode cX8_route 53 = .ok (.getfield 22, 3) := by decide +kernel
theorem dX8_route_56 : decode cX8_route 56 = .ok (.iload_n 1, 1) := by decide +kernel
theorem dX8_route_57 : decode cX8_route 57 = .ok (.iaload, 1) := by decide +kernel
theorem dX8_route_58 : decode cX8_route 58 = .ok (.ireturn, 1) := by decide +kernel
theorem dX8_route_59 : decode cX8_route 59 = .ok (.aload_n 0, 1) := by decide +kernel
theorem dX8_route_60 : decode cX8_route 60 = .ok (.getfield 25, 3) := by decide +kernel
theorem dX8_route_63 : decode cX8_route 63 = .ok (.iload_n 1, 1) := by decide +kernel
theorem dX8_route_64 : decode cX8_route 64 = .ok (.iaload, 1) := by decide +kernel
theorem dX8_route_65 : decode cX8_route 65 = .ok (.ireturn, 1) := by decide +kernel
theorem dX8_route_66 : decode cX8_route 66 = .ok (.aload_n 0, 1) := by decide +kernel
theorem dX8_route_67 : decode cX8_route 67 = .ok (.getfield 28, 3) := by decide +kernel
theorem dX8_route_70 : decode cX8_route 70 = .ok (.iload_n 1, 1) := by decide +kernel
theorem dX8_route_71 : decode cX8_route 71 = .ok (.iaload, 1) := by decide +kernel
theorem dX8_route_72 : decode cX8_route 72 = .ok (.ireturn, 1) := by decide +kernel
theorem dX8_route_73 : decode cX8_route 73 = .ok (.aload_n 0, 1) := by decide +kernel
theorem dX8_route_74 : decode cX8_route 74 = .ok (.getfield 31, 3) := by decide +kernel
theorem dX8_route_77 : decode cX8_route 77 = .ok (.iload_n 1, 1) := by decide +kernel
theorem dX8_route_78 : decode cX8_route 78 = .ok (.iaload, 1) := by decide +kernel
theorem dX8_route_79 : decode cX8_route 79 = .ok (.ireturn, 1) := by decide +kernel
theorem dX8_route_80 : decode cX8_route 80 = .ok (.aload_n 0, 1) := by decide +kernel
theorem dX8_route_81 : decode cX8_route 81 = .ok (.iload_n 1, 1) := by decide +kernel
theorem dX8_route_82 : decode cX8_route 82 = .ok (.invokevirtual 296, 3) := by decide +kernel
theorem dX8_route_85 : decode cX8_route 85 = .ok (.ireturn, 1) := by decide +kernel
theorem dX8_route_86 : decode cX8_route 86 = .ok (.aload_n 0, 1) := by decide +kernel
theorem dX8_route_87 : decode cX8_route 87 = .ok (.iload_n 1, 1) := by decide +kernel
theorem dX8_route_88 : decode cX8_route 88 = .ok (.invokevirtual 149, 3) := by decide +kernel
theorem dX8_route_91 : decode cX8_route 91 = .ok (.ifCond .eq 7, 3) := by decide +kernel
theorem dX8_route_94 : decode cX8_route 94 = .ok (.iconst 1, 1) := by decide +kernel
theorem dX8_route_95 : decode cX8_route 95 = .ok (.goto 4, 3) := by decide +kernel
theorem dX8_route_98 : decode cX8_route 98 = .ok (.iconst 0, 1) := by decide +kernel
theorem dX8_route_99 : decode cX8_route 99 = .ok (.ireturn, 1) := by decide +kernel
theorem dX8_route_100 : decode cX8_route 100 = .ok (.aload_n 0, 1) := by decide +kernel
theorem dX8_route_101 : decode cX8_route 101 = .ok (.bipush (-2), 2) := by decide +kernel
theorem dX8_route_103 : decode cX8_route 103 = .ok (.invokevirtual 211, 3) := by decide +kernel
theorem dX8_route_106 : decode cX8_route 106 = .ok (.ireturn, 1) := by decide +kernel
theorem sp_X8_route {x y : Int32} {S : St} {D : Mem} (h : INV2 D S) (hw : WF S) : Rix 3 j_X8_route [.ref 104, .int x, .int y] D (fun u D' => CK2 D (m_route S x y) u D') := by
  refine E.start 0 (ls := [some (.ref 104), some (.int x), some (.int y)]) (by decide +kernel) (Nat.le_of_ble_eq_true rfl) rfl (Nat.le_refl _) (Nat.le_refl _) ?_
  have hcm := hw.1.2.1
  have hB2 := h.1.2.1
  refine X_aload_n (nx := 1) dX8_route_0 rfl rfl rfl ?_
  refine X_iload_n (nx := 2) dX8_route_1 rfl rfl rfl ?_
  refine Y_Vi1 (nx := 5) dX8_route_2 rfl ml_RX8_254 kj_X8_isRoute kv_X8_isRoute (sp_X8_isRoute h.1 hw.1) (by first | assumption | rfl | decide | omega) (by first | assumption | rfl | decide | omega) (by decide) rfl (by first | decide | omega) (by exact Nat.le_of_ble_eq_true rfl) ?_
  refine X_top (show _ = b2i (isTh (bk S) x) from rfl) ?_
  refine X_if_ne (tgt := 14) (nx := 8) dX8_route_5 rfl rfl (fun h5 => ?_) (fun h5 => ?_)
  · skip
    have c5 := b2i_t.mp h5
    obtain ⟨r, hr, rfl, tr⟩ := isTh_t hcm c5
    have k5 : (nI r).toNatClampNeg = r := nI_clamp (by omega)
    have hB := h.1.2.2 r hr
    refine X_iload_n (nx := 15) dX8_route_14 rfl rfl rfl ?_
    obtain rfl | rfl | rfl | rfl | rfl | rfl | ⟨y0, y1, y2, y3, y4, y5, yo⟩ := out6 y
    · skip
      refine X_tableIn (tgt := 52) (off := 37) dX8_route_15 (by decide) (by decide) (by decide) rfl ?_
      refine X_aload_n (nx := 53) dX8_route_52 rfl rfl rfl ?_
      refine M_getP (nx := 56) dX8_route_53 rfl fl_RX8_22 rfl (by first | assumption | rfl | decide | omega) (by first | assumption | rfl | decide | omega) (by first | assumption | rfl | decide | omega) ?_
      refine X_iload_n (nx := 57) dX8_route_56 rfl rfl rfl ?_
      refine M_ld (a := 109) (L := 10) (nx := 58) dX8_route_57 rfl (by decide) (by decide) rfl (by decide) (by omega) (hB.2.1) ?_
      exact Z_reti dX8_route_58 (Or.inl rfl) (by unfold m_route; rw [if_pos c5, k5, if_pos rfl]; exact ck2_s rfl h Fr.rf)
    · skip
      refine X_tableIn (tgt := 59) (off := 44) dX8_route_15 (by decide) (by decide) (by decide) rfl ?_
      refine X_aload_n (nx := 60) dX8_route_59 rfl rfl rfl ?_
      refine M_getP (nx := 63) dX8_route_60 rfl fl_RX8_25 rfl (by first | assumption | rfl | decide | omega) (by first | assumption | rfl | decide | omega) (by first | assumption | rfl | decide | omega) ?_
      refine X_iload_n (nx := 64) dX8_route_63 rfl rfl rfl ?_
      refine M_ld (a := 110) (L := 10) (nx := 65) dX8_route_64 rfl (by decide) (by decide) rfl (by decide) (by omega) (hB.2.2.1) ?_
      exact Z_reti dX8_route_65 (Or.inl rfl) (by unfold m_route; rw [if_pos c5, k5, if_neg (by decide), if_pos rfl]; exact ck2_s rfl h Fr.rf)
    · skip
      refine X_tableIn (tgt := 66) (off := 51) dX8_route_15 (by decide) (by decide) (by decide) rfl ?_
      refine X_aload_n (nx := 67) dX8_route_66 rfl rfl rfl ?_
      refine M_getP (nx := 70) dX8_route_67 rfl fl_RX8_28 rfl (by first | assumption | rfl | decide | omega) (by first | assumption | rfl | decide | omega) (by first | assumption | rfl | decide | omega) ?_
      refine X_iload_n (nx := 71) dX8_route_70 rfl rfl rfl ?_
      refine M_ld (a := 111) (L := 10) (nx := 72) dX8_route_71 rfl (by decide) (by decide) rfl (by decide) (by omega) (hB.2.2.2.1) ?_
      exact Z_reti dX8_route_72 (Or.inl rfl) (by unfold m_route; rw [if_pos c5, k5, if_neg (by decide), if_neg (by decide), if_pos rfl]; exact ck2_s rfl h Fr.rf)
    · skip
      refine X_tableIn (tgt := 73) (off := 58) dX8_route_15 (by decide) (by decide) (by decide) rfl ?_
      refine X_aload_n (nx := 74) dX8_route_73 rfl rfl rfl ?_
      refine M_getP (nx := 77) dX8_route_74 rfl fl_RX8_31 rfl (by first | assumption | rfl | decide | omega) (by first | assumption | rfl | decide | omega) (by first | assumption | rfl | decide | omega) ?_
      refine X_iload_n (nx := 78) dX8_route_77 rfl rfl rfl ?_
      refine M_ld (a := 112) (L := 10) (nx := 79) dX8_route_78 rfl (by decide) (by decide) rfl (by decide) (by omega) (hB.2.2.2.2.1) ?_
      exact Z_reti dX8_route_79 (Or.inl rfl) (by unfold m_route; rw [if_pos c5, k5, if_neg (by decide), if_neg (by decide), if_neg (by decide), if_pos rfl]; exact ck2_s rfl h Fr.rf)
    · skip
      refine X_tableIn (tgt := 80) (off := 65) dX8_route_15 (by decide) (by decide) (by decide) rfl ?_
      refine X_aload_n (nx := 81) dX8_route_80 rfl rfl rfl ?_
      refine X_iload_n (nx := 82) dX8_route_81 rfl rfl rfl ?_
      refine Y_Vi1 (nx := 85) dX8_route_82 rfl ml_RX8_296 kj_X8_parametersOf kv_X8_parametersOf (sp_X8_parametersOf h.1 hw.1 rfl hr) (by first | assumption | rfl | decide | omega) (by first | assumption | rfl | decide | omega) (by decide) rfl (by first | decide | omega) (by exact Nat.le_of_ble_eq_true rfl) ?_
      exact Z_reti dX8_route_85 (Or.inl rfl) (by unfold m_route; rw [if_pos c5, k5, if_neg (by decide), if_neg (by decide), if_neg (by decide), if_neg (by decide), if_pos rfl]; exact ck2_s rfl h Fr.rf)
    · skip
      refine X_tableIn (tgt := 86) (off := 71) dX8_route_15 (by decide) (by decide) (by decide) rfl ?_
      refine X_aload_n (nx := 87) dX8_route_86 rfl rfl rfl ?_
      refine X_iload_n (nx := 88) dX8_route_87 rfl rfl rfl ?_
      refine Y_Vi1 (nx := 91) dX8_route_88 rfl ml_RX8_149 kj_X8_hasRest kv_X8_hasRest (sp_X8_hasRest h.1 hw.1 rfl hr) (by first | assumption | rfl | decide | omega) (by first | assumption | rfl | decide | omega) (by decide) rfl (by first | decide | omega) (by exact Nat.le_of_ble_eq_true rfl) ?_
      refine X_if_eq (tgt := 98) (nx := 94) dX8_route_91 rfl rfl (fun h91 => ?_) (fun h91 => ?_)
      · skip
        refine X_iconst (v := 0) (nx := 99) dX8_route_98 rfl rfl ?_
        exact Z_reti dX8_route_99 (Or.inl rfl) (by unfold m_route; rw [if_pos c5, k5, if_neg (by decide), if_neg (by decide), if_neg (by decide), if_neg (by decide), if_neg (by decide), if_pos rfl]; first | (exact ck2_s (by rw [b2i_f.mp h91]; rfl) h Fr.rf) | (exact ck2_s (by rw [b2i_t.mp h91]; rfl) h Fr.rf))
      · skip
        refine X_iconst (v := 1) (nx := 95) dX8_route_94 rfl rfl ?_
        refine X_goto (tgt := 99) dX8_route_95 rfl ?_
        exact Z_reti dX8_route_99 (Or.inl rfl) (by unfold m_route; rw [if_pos c5, k5, if_neg (by decide), if_neg (by decide), if_neg (by decide), if_neg (by decide), if_neg (by decide), if_pos rfl]; first | (exact ck2_s (by rw [b2i_f.mp h91]; rfl) h Fr.rf) | (exact ck2_s (by rw [b2i_t.mp h91]; rfl) h Fr.rf))
    · skip
      refine X_tableOut (tgt := 100) dX8_route_15 (yo) rfl ?_
      refine X_aload_n (nx := 101) dX8_route_100 rfl rfl rfl ?_
      refine X_bipush (v := -2) (nx := 103) dX8_route_101 rfl rfl ?_
      refine Y_Vi1 (nx := 106) dX8_route_103 rfl ml_RX8_211 kj_X8_no kv_X8_no (sp_X8_no (k := 2) rfl (by omega) (by omega)) (by first | assumption | rfl | decide | omega) (by first | assumption | rfl | decide | omega) (by decide) rfl (by first | decide | omega) (by exact Nat.le_of_ble_eq_true rfl) ?_
      exact Z_reti dX8_route_106 (Or.inl rfl) (by unfold m_route; rw [if_pos c5, if_neg y0, if_neg y1, if_neg y2, if_neg y3, if_neg y4, if_neg y5]; exact ck2_no (k := 2) h Fr.rf (by omega) (by omega))
  · skip
    have n5 := nb h5
    refine X_aload_n (nx := 9) dX8_route_8 rfl rfl rfl ?_
    refine X_iconst (v := -1) (nx := 10) dX8_route_9 rfl rfl ?_
    refine Y_Vi1 (nx := 13) dX8_route_10 rfl ml_RX8_211 kj_X8_no kv_X8_no (sp_X8_no (k := 1) rfl (by omega) (by omega)) (by first | assumption | rfl | decide | omega) (by first | assumption | rfl | decide | omega) (by decide) rfl (by first | decide | omega) (by exact Nat.le_of_ble_eq_true rfl) ?_
    exact Z_reti dX8_route_13 (Or.inl rfl) (by unfold m_route; rw [if_neg n5]; exact ck2_no (k := 1) h Fr.rf (by omega) (by omega))
