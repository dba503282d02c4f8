/-! LOTS, LONG ANSWERS -/
def nxs (z : Int32) : Int32 := z * 1664525 + 1013904223
def sdN (z : Int32) : Nat → Int32
  | 0 => z
  | k + 1 => nxs (sdN z k)
def drN (z : Int32) : Nat := (z &&& 2147483647).toBitVec.toNat % 2147483648 / 256
theorem drw_eq (z : Int32) : (z &&& 2147483647) / 256 = nI (drN z) ∧ drN z < 8388608 := by
  obtain ⟨j, hj, e⟩ := pk_andE z (m := 2147483647) 31 (by decide)
  have e2 : drN z = j / 256 := by
    unfold drN
    rw [e, pk_tn (by omega), Nat.mod_eq_of_lt (by omega)]
  rw [e2, e]
  exact ⟨pk_div (by omega) (by decide) (by decide), by omega⟩
def ltP (z : Int32) (i : Nat) : Nat := drN (sdN z (2 * i + 1)) % 341
def ltV (z : Int32) (i : Nat) : Nat := drN (sdN z (2 * i + 2)) % 4
theorem drw_rem (z : Int32) {n : Nat} (h0 : 0 < n) (hn : n < 1000) : (z &&& 2147483647) / 256 - (z &&& 2147483647) / 256 / nI n * nI n = nI (drN z % n) := by
  obtain ⟨h1, h2⟩ := drw_eq z
  rw [h1]; exact pk_rem (by omega) h0 (by omega)
def m_lots (S : St) (x z y : Int32) : Int32 × St :=
  if x < 1 then no_ S 4 else if 200 < x then no_ S 6 else if decide (y = 0 ∨ y = 1) = true then
    (if y = 0 then nI (cn (fun i => (ME S (ltV z i) (ltP z i)).isSome) x.toNatClampNeg) else nI (sumN (fun i => (MT S (ltV z i) (ltP z i)).2) x.toNatClampNeg), S) else no_ S 2
theorem dX7_lots_0 : decode cX7_lots 0 = .ok (.iload_n 1, 1) := by decide +kernel
theorem dX7_lots_1 : decode cX7_lots 1 = .ok (.iconst 1, 1) := by decide +kernel
theorem dX7_lots_2 : decode cX7_lots 2 = .ok (.if_icmp .ge 10, 3) := by decide +kernel
theorem dX7_lots_5 : decode cX7_lots 5 = .ok (.aload_n 0, 1) := by decide +kernel
theorem dX7_lots_6 : decode cX7_lots 6 = .ok (.bipush (-4), 2) := by decide +kernel
theorem dX7_lots_8 : decode cX7_lots 8 = .ok (.invokevirtual 51, 3) := by decide +kernel
theorem dX7_lots_11 : decode cX7_lots 11 = .ok (.ireturn, 1) := by decide +kernel
theorem dX7_lots_12 : decode cX7_lots 12 = .ok (.iload_n 1, 1) := by decide +kernel
theorem dX7_lots_13 : decode cX7_lots 13 = .ok (.sipush 200, 3) := by decide +kernel
theorem dX7_lots_16 : decode cX7_lots 16 = .ok (.if_icmp .le 10, 3) := by decide +kernel
theorem dX7_lots_19 : decode cX7_lots 19 = .ok (.aload_n 0, 1) := by decide +kernel
theorem dX7_lots_20 : decode cX7_lots 20 = .ok (.bipush (-6), 2) := by decide +kernel
theorem dX7_lots_22 : decode cX7_lots 22 = .ok (.invokevirtual 51, 3) := by decide +kernel
theorem dX7_lots_25 : decode cX7_lots 25 = .ok (.ireturn, 1) := by decide +kernel
theorem dX7_lots_26 : decode cX7_lots 26 = .ok (.iload_n 3, 1) := by decide +kernel
theorem dX7_lots_27 : decode cX7_lots 27 = .ok (.invokestatic 197, 3) := by decide +kernel
theorem dX7_lots_30 : decode cX7_lots 30 = .ok (.ifCond .ne 10, 3) := by decide +kernel
theorem dX7_lots_33 : decode cX7_lots 33 = .ok (.aload_n 0, 1) := by decide +kernel
theorem dX7_lots_34 : decode cX7_lots 34 = .ok (.bipush (-2), 2) := by decide +kernel
theorem dX7_lots_36 : decode cX7_lots 36 = .ok (.invokevirtual 51, 3) := by decide +kernel
theorem dX7_lots_39 : decode cX7_lots 39 = .ok (.ireturn, 1) := by decide +kernel
theorem dX7_lots_40 : decode cX7_lots 40 = .ok (.aload_n 0, 1) := by decide +kernel
theorem dX7_lots_41 : decode cX7_lots 41 = .ok (.getfield 10, 3) := by decide +kernel
theorem dX7_lots_44 : decode cX7_lots 44 = .ok (.invokevirtual 125, 3) := by decide +kernel
theorem dX7_lots_47 : decode cX7_lots 47 = .ok (.istore 4, 2) := by decide +kernel
theorem dX7_lots_49 : decode cX7_lots 49 = .ok (.iconst 0, 1) := by decide +kernel
theorem dX7_lots_50 : decode cX7_lots 50 = .ok (.istore 5, 2) := by decide +kernel
theorem dX7_lots_52 : decode cX7_lots 52 = .ok (.iconst 0, 1) := by decide +kernel
theorem dX7_lots_53 : decode cX7_lots 53 = .ok (.istore 6, 2) := by decide +kernel
theorem dX7_lots_55 : decode cX7_lots 55 = .ok (.iload_n 2, 1) := by decide +kernel
theorem dX7_lots_56 : decode cX7_lots 56 = .ok (.istore 7, 2) := by decide +kernel
theorem dX7_lots_58 : decode cX7_lots 58 = .ok (.iconst 0, 1) := by decide +kernel
theorem dX7_lots_59 : decode cX7_lots 59 = .ok (.istore 8, 2) := by decide +kernel
theorem dX7_lots_61 : decode cX7_lots 61 = .ok (.iload 8, 2) := by decide +kernel
theorem dX7_lots_63 : decode cX7_lots 63 = .ok (.iload_n 1, 1) := by decide +kernel
theorem dX7_lots_64 : decode cX7_lots 64 = .ok (.if_icmp .ge 74, 3) := by decide +kernel
theorem dX7_lots_67 : decode cX7_lots 67 = .ok (.iload 7, 2) := by decide +kernel
theorem dX7_lots_69 : decode cX7_lots 69 = .ok (.invokestatic 253, 3) := by decide +kernel
theorem dX7_lots_72 : decode cX7_lots 72 = .ok (.istore 7, 2) := by decide +kernel
theorem dX7_lots_74 : decode cX7_lots 74 = .ok (.iload 7, 2) := by decide +kernel
theorem dX7_lots_76 : decode cX7_lots 76 = .ok (.invokestatic 256, 3) := by decide +kernel
theorem dX7_lots_79 : decode cX7_lots 79 = .ok (.sipush 341, 3) := by decide +kernel
theorem dX7_lots_82 : decode cX7_lots 82 = .ok (.irem, 1) := by decide +kernel
theorem dX7_lots_83 : decode cX7_lots 83 = .ok (.istore 9, 2) := by decide +kernel
theorem dX7_lots_85 : decode cX7_lots 85 = .ok (.iload 7, 2) := by decide +kernel
theorem dX7_lots_87 : decode cX7_lots 87 = .ok (.invokestatic 253, 3) := by decide +kernel
theorem dX7_lots_90 : decode cX7_lots 90 = .ok (.istore 7, 2) := by decide +kernel
theorem dX7_lots_92 : decode cX7_lots 92 = .ok (.iload 7, 2) := by decide +kernel
theorem dX7_lots_94 : decode cX7_lots 94 = .ok (.invokestatic 256, 3) := by decide +kernel
theorem dX7_lots_97 : decode cX7_lots 97 = .ok (.iconst 4, 1) := by decide +kernel
theorem dX7_lots_98 : decode cX7_lots 98 = .ok (.irem, 1) := by decide +kernel
theorem dX7_lots_99 : decode cX7_lots 99 = .ok (.istore 10, 2) := by decide +kernel
theorem dX7_lots_101 : decode cX7_lots 101 = .ok (.aload_n 0, 1) := by decide +kernel
theorem dX7_lots_102 : decode cX7_lots 102 = .ok (.getfield 25, 3) := by decide +kernel
theorem dX7_lots_105 : decode cX7_lots 105 = .ok (.iload 9, 2) := by decide +kernel
theorem dX7_lots_107 : decode cX7_lots 107 = .ok (.iload 10, 2) := by decide +kernel
theorem dX7_lots_109 : decode cX7_lots 109 = .ok (.iload 4, 2) := by decide +kernel
theorem dX7_lots_111 : decode cX7_lots 111 = .ok (.invokevirtual 180, 3) := by decide +kernel
theorem dX7_lots_114 : decode cX7_lots 114 = .ok (.ifCond .lt 6, 3) := by decide +kernel
theorem dX7_lots_117 : decode cX7_lots 117 = .ok (.iinc 5 1, 3) := by decide +kernel
theorem dX7_lots_120 : decode cX7_lots 120 = .ok (.iload 6, 2) := by decide +kernel
theorem dX7_lots_122 : decode cX7_lots 122 = .ok (.aload_n 0, 1) := by decide +kernel
theorem dX7_lots_123 : decode cX7_lots 123 = .ok (.getfield 25, 3) := by decide +kernel
theorem dX7_lots_126 : decode cX7_lots 126 = .ok (.getfield 194, 3) := by decide +kernel
theorem dX7_lots_129 : decode cX7_lots 129 = .ok (.iadd, 1) := by decide +kernel
theorem dX7_lots_130 : decode cX7_lots 130 = .ok (.istore 6, 2) := by decide +kernel
theorem dX7_lots_132 : decode cX7_lots 132 = .ok (.iinc 8 1, 3) := by decide +kernel
theorem dX7_lots_135 : decode cX7_lots 135 = .ok (.goto (-74), 3) := by decide +kernel
theorem dX7_lots_138 : decode cX7_lots 138 = .ok (.iload_n 3, 1) := by decide +kernel
theorem dX7_lots_139 : decode cX7_lots 139 = .ok (.ifCond .ne 8, 3) := by decide +kernel
theorem dX7_lots_142 : decode cX7_lots 142 = .ok (.iload 5, 2) := by decide +kernel
theorem dX7_lots_144 : decode cX7_lots 144 = .ok (.goto 5, 3) := by decide +kernel
theorem dX7_lots_147 : decode cX7_lots 147 = .ok (.iload 6, 2) := by decide +kernel
theorem dX7_lots_149 : decode cX7_lots 149 = .ok (.ireturn, 1) := by decide +kernel
theorem lp_lots {S : St} {D : Mem} {n : Nat} {y z : Int32} (hn : n ≤ 200) : ∀ (m : Nat) (i : Nat) (D1 : Mem) (y1 y2 : Option Value), i + m = n → INV1 D1 S → Fr inC D D1 → X 21 138 j_X7_lots 61 [some (.ref 0), some (.int (nI n)), some (.int z), some (.int y), some (.int (nI (wS S))), some (.int (nI (cn (fun i => (ME S (ltV z i) (ltP z i)).isSome) i))), some (.int (nI (sumN (fun i => (MT S (ltV z i) (ltP z i)).2) i))), some (.int (sdN z (2 * i))), some (.int (nI i)), y1, y2] [] (138, P0, D1) (fun x σ => ∃ (u : Int32) (D' : Mem), x = [.int u] ∧ σ = wd D' ∧ CK D (if y = 0 then nI (cn (fun i => (ME S (ltV z i) (ltP z i)).isSome) n) else nI (sumN (fun i => (MT S (ltV z i) (ltP z i)).2) n), S) u D') := by
  intro m
  induction m with
  | zero =>
    intro i D1 y1 y2 hi h hf
    refine X_iload (nx := 63) dX7_lots_61 rfl rfl ?_
    refine X_iload_n (nx := 64) dX7_lots_63 rfl rfl rfl ?_
    refine X_icmp_ge (tgt := 138) (nx := 67) dX7_lots_64 rfl rfl (fun h64 => ?_) (fun h64 => ?_)
    · skip
      refine X_iload_n (nx := 139) dX7_lots_138 rfl rfl rfl ?_
      refine X_if_ne (tgt := 147) (nx := 142) dX7_lots_139 rfl rfl (fun h139 => ?_) (fun h139 => ?_)
      · skip
        refine X_iload (nx := 149) dX7_lots_147 rfl rfl ?_
        exact Z_reti dX7_lots_149 (Or.inl rfl) (by obtain rfl : i = n := (by omega); first | (rw [if_neg h139]; exact ck_s rfl h hf) | (rw [if_pos h139]; exact ck_s rfl h hf))
      · skip
        refine X_iload (nx := 144) dX7_lots_142 rfl rfl ?_
        refine X_goto (tgt := 149) dX7_lots_144 rfl ?_
        exact Z_reti dX7_lots_149 (Or.inl rfl) (by obtain rfl : i = n := (by omega); first | (rw [if_neg h139]; exact ck_s rfl h hf) | (rw [if_pos h139]; exact ck_s rfl h hf))
    · exact absurd h64 (fun q => q (nI_le (by omega) (by omega)))
  | succ m ih =>
    intro i D1 y1 y2 hi h hf
    refine X_iload (nx := 63) dX7_lots_61 rfl rfl ?_
    refine X_iload_n (nx := 64) dX7_lots_63 rfl rfl rfl ?_
    refine X_icmp_ge (tgt := 138) (nx := 67) dX7_lots_64 rfl rfl (fun h64 => ?_) (fun h64 => ?_)
    · exact absurd h64 (nI_ge (by omega) (by omega))
    · skip
      refine X_iload (nx := 69) dX7_lots_67 rfl rfl ?_
      refine Y_Si1 (nx := 72) dX7_lots_69 rfl ml_RX7_253 kj_X7_nextSeed ks_X7_nextSeed (sp_X7_nextSeed) (by first | decide | omega) (by exact Nat.le_of_ble_eq_true rfl) ?_
      refine X_top (show _ = sdN z (2 * i + 1) from rfl) ?_
      refine X_istore (i := 7) (nx := 74) dX7_lots_72 rfl (by decide) rfl (st_s (st_s (st_s (st_s (st_s (st_s (st_s (st_0)))))))) ?_
      refine X_iload (nx := 76) dX7_lots_74 rfl rfl ?_
      refine Y_Si1 (nx := 79) dX7_lots_76 rfl ml_RX7_256 kj_X7_drawn ks_X7_drawn (sp_X7_drawn) (by first | decide | omega) (by exact Nat.le_of_ble_eq_true rfl) ?_
      refine X_sipush (v := nI 341) (nx := 82) dX7_lots_79 rfl rfl ?_
      refine X_irem (nx := 83) dX7_lots_82 rfl (by decide) ?_
      refine X_top (show _ = nI (ltP z i) from drw_rem _ (by decide) (by decide)) ?_
      refine X_istore (i := 9) (nx := 85) dX7_lots_83 rfl (by decide) rfl (st_s (st_s (st_s (st_s (st_s (st_s (st_s (st_s (st_s (st_0)))))))))) ?_
      refine X_iload (nx := 87) dX7_lots_85 rfl rfl ?_
      refine Y_Si1 (nx := 90) dX7_lots_87 rfl ml_RX7_253 kj_X7_nextSeed ks_X7_nextSeed (sp_X7_nextSeed) (by first | decide | omega) (by exact Nat.le_of_ble_eq_true rfl) ?_
      refine X_top (show _ = sdN z (2 * i + 2) from rfl) ?_
      refine X_istore (i := 7) (nx := 92) dX7_lots_90 rfl (by decide) rfl (st_s (st_s (st_s (st_s (st_s (st_s (st_s (st_0)))))))) ?_
      refine X_iload (nx := 94) dX7_lots_92 rfl rfl ?_
      refine Y_Si1 (nx := 97) dX7_lots_94 rfl ml_RX7_256 kj_X7_drawn ks_X7_drawn (sp_X7_drawn) (by first | decide | omega) (by exact Nat.le_of_ble_eq_true rfl) ?_
      refine X_iconst (v := nI 4) (nx := 98) dX7_lots_97 rfl rfl ?_
      refine X_irem (nx := 99) dX7_lots_98 rfl (by decide) ?_
      refine X_top (show _ = nI (ltV z i) from drw_rem _ (by decide) (by decide)) ?_
      refine X_istore (i := 10) (nx := 101) dX7_lots_99 rfl (by decide) rfl (st_s (st_s (st_s (st_s (st_s (st_s (st_s (st_s (st_s (st_s (st_0))))))))))) ?_
      refine X_aload_n (nx := 102) dX7_lots_101 rfl rfl rfl ?_
      refine M_getP (nx := 105) dX7_lots_102 rfl fl_RX7_25 rfl (by first | assumption | rfl | decide | omega) (by first | assumption | rfl | decide | omega) (by first | assumption | rfl | decide | omega) ?_
      refine X_iload (nx := 107) dX7_lots_105 rfl rfl ?_
      refine X_iload (nx := 109) dX7_lots_107 rfl rfl ?_
      refine X_iload (nx := 111) dX7_lots_109 rfl rfl ?_
      refine Z_Vi3 (nx := 114) dX7_lots_111 rfl ml_RX7_180 kj_X6_bring kv_X6_bring (sp_X6_bring h rfl (show ltP z i < 341 from Nat.mod_lt _ (by decide)) rfl (show ltV z i < 4 from Nat.mod_lt _ (by decide)) rfl (wS_lt S)) (by first | assumption | rfl | decide | omega) (by first | assumption | rfl | decide | omega) (by decide) rfl (by first | decide | omega) (by exact Nat.le_of_ble_eq_true rfl) (fun u111 D111 g111 => ?_)
      refine X_if_lt (tgt := 120) (nx := 117) dX7_lots_114 rfl rfl (fun h114 => ?_) (fun h114 => ?_)
      · skip
        have hz := cn_0 (p := (fun i => (ME S (ltV z i) (ltP z i)).isSome)) (n := i) (brg_no g111 h114)
        rw [hz.1]
        refine X_iload (nx := 122) dX7_lots_120 rfl rfl ?_
        refine X_aload_n (nx := 123) dX7_lots_122 rfl rfl rfl ?_
        refine M_getP (nx := 126) dX7_lots_123 rfl fl_RX7_25 rfl (by first | assumption | rfl | decide | omega) (by first | assumption | rfl | decide | omega) (by first | assumption | rfl | decide | omega) ?_
        refine M_getI (nx := 129) dX7_lots_126 rfl fl_RX7_194 rfl (by first | assumption | rfl | decide | omega) (by first | assumption | rfl | decide | omega) ?_
        refine X_top (g111.2.2.2.2.1) ?_
        refine X_iadd (nx := 130) dX7_lots_129 rfl ?_
        refine X_top (show _ = nI (sumN (fun i => (MT S (ltV z i) (ltP z i)).2) (i + 1)) from nI_add _ _) ?_
        refine X_istore (i := 6) (nx := 132) dX7_lots_130 rfl (by decide) rfl (st_s (st_s (st_s (st_s (st_s (st_s (st_0))))))) ?_
        refine X_iinc (nx := 135) dX7_lots_132 rfl (by decide) rfl (by first | exact ii1 _ | rfl) rfl (st_s (st_s (st_s (st_s (st_s (st_s (st_s (st_s (st_0))))))))) ?_
        refine X_goto (tgt := 61) dX7_lots_135 rfl ?_
        exact ih (i + 1) D111 _ _ (by omega) g111.1 (hf.tr g111.2.1.sc)
      · skip
        have hz := cn_1 (p := (fun i => (ME S (ltV z i) (ltP z i)).isSome)) (n := i) (brg_yes g111 h114)
        refine X_iinc (nx := 120) dX7_lots_117 rfl (by decide) rfl hz.1 rfl (st_s (st_s (st_s (st_s (st_s (st_0)))))) ?_
        refine X_iload (nx := 122) dX7_lots_120 rfl rfl ?_
        refine X_aload_n (nx := 123) dX7_lots_122 rfl rfl rfl ?_
        refine M_getP (nx := 126) dX7_lots_123 rfl fl_RX7_25 rfl (by first | assumption | rfl | decide | omega) (by first | assumption | rfl | decide | omega) (by first | assumption | rfl | decide | omega) ?_
        refine M_getI (nx := 129) dX7_lots_126 rfl fl_RX7_194 rfl (by first | assumption | rfl | decide | omega) (by first | assumption | rfl | decide | omega) ?_
        refine X_top (g111.2.2.2.2.1) ?_
        refine X_iadd (nx := 130) dX7_lots_129 rfl ?_
        refine X_top (show _ = nI (sumN (fun i => (MT S (ltV z i) (ltP z i)).2) (i + 1)) from nI_add _ _) ?_
        refine X_istore (i := 6) (nx := 132) dX7_lots_130 rfl (by decide) rfl (st_s (st_s (st_s (st_s (st_s (st_s (st_0))))))) ?_
        refine X_iinc (nx := 135) dX7_lots_132 rfl (by decide) rfl (by first | exact ii1 _ | rfl) rfl (st_s (st_s (st_s (st_s (st_s (st_s (st_s (st_s (st_0))))))))) ?_
        refine X_goto (tgt := 61) dX7_lots_135 rfl ?_
        exact ih (i + 1) D111 _ _ (by omega) g111.1 (hf.tr g111.2.1.sc)
theorem sp_X7_lots {x z y : Int32} {S : St} {D : Mem} (h : INV1 D S) : Rix 21 j_X7_lots [.ref 0, .int x, .int z, .int y] D (fun u D' => CK D (m_lots S x z y) u D') := by
  refine E.start 7 (ls := [some (.ref 0), some (.int x), some (.int z), some (.int y), none, none, none, none, none, none, none]) (by decide +kernel) (Nat.le_of_ble_eq_true rfl) rfl (Nat.le_refl _) (Nat.le_refl _) ?_
  have hcm := h.1.2.1.2.1
  refine X_iload_n (nx := 1) dX7_lots_0 rfl rfl rfl ?_
  refine X_iconst (v := 1) (nx := 2) dX7_lots_1 rfl rfl ?_
  refine X_icmp_ge (tgt := 12) (nx := 5) dX7_lots_2 rfl rfl (fun h2 => ?_) (fun h2 => ?_)
  · skip
    refine X_iload_n (nx := 13) dX7_lots_12 rfl rfl rfl ?_
    refine X_sipush (v := 200) (nx := 16) dX7_lots_13 rfl rfl ?_
    refine X_icmp_le (tgt := 26) (nx := 19) dX7_lots_16 rfl rfl (fun h16 => ?_) (fun h16 => ?_)
    · skip
      obtain ⟨n, hn, rfl⟩ := ex_nI (x := x) (N := 201) (n := 201) rfl (by decide) ⟨Int32.le_trans (by decide) h2, Int32.lt_of_le_of_lt h16 (by decide)⟩
      have kk : (nI n).toNatClampNeg = n := nI_clamp (by omega)
      refine X_iload_n (nx := 27) dX7_lots_26 rfl rfl rfl ?_
      refine Y_Si1 (nx := 30) dX7_lots_27 rfl ml_RX7_197 kj_X7_isOneOfTwo ks_X7_isOneOfTwo (sp_X7_isOneOfTwo) (by first | decide | omega) (by exact Nat.le_of_ble_eq_true rfl) ?_
      refine X_if_ne (tgt := 40) (nx := 33) dX7_lots_30 rfl rfl (fun h30 => ?_) (fun h30 => ?_)
      · skip
        have c30 := b2i_t.mp h30
        refine X_aload_n (nx := 41) dX7_lots_40 rfl rfl rfl ?_
        refine M_getP (nx := 44) dX7_lots_41 rfl fl_RX7_10 rfl (by first | assumption | rfl | decide | omega) (by first | assumption | rfl | decide | omega) (by first | assumption | rfl | decide | omega) ?_
        refine Y_Vi0 (nx := 47) dX7_lots_44 rfl ml_RX7_125 kj_X0_thereBits kv_X0_thereBits (sp_X0_thereBits (Or.inl rfl) h.1.1) (by first | assumption | rfl | decide | omega) (by first | assumption | rfl | decide | omega) (by decide) rfl (by first | decide | omega) (by exact Nat.le_of_ble_eq_true rfl) ?_
        refine X_istore (i := 4) (nx := 49) dX7_lots_47 rfl (by decide) rfl (st_s (st_s (st_s (st_s (st_0))))) ?_
        refine X_iconst (v := nI 0) (nx := 50) dX7_lots_49 rfl rfl ?_
        refine X_istore (i := 5) (nx := 52) dX7_lots_50 rfl (by decide) rfl (st_s (st_s (st_s (st_s (st_s (st_0)))))) ?_
        refine X_iconst (v := nI 0) (nx := 53) dX7_lots_52 rfl rfl ?_
        refine X_istore (i := 6) (nx := 55) dX7_lots_53 rfl (by decide) rfl (st_s (st_s (st_s (st_s (st_s (st_s (st_0))))))) ?_
        refine X_iload_n (nx := 56) dX7_lots_55 rfl rfl rfl ?_
        refine X_istore (i := 7) (nx := 58) dX7_lots_56 rfl (by decide) rfl (st_s (st_s (st_s (st_s (st_s (st_s (st_s (st_0)))))))) ?_
        refine X_iconst (v := nI 0) (nx := 59) dX7_lots_58 rfl rfl ?_
        refine X_istore (i := 8) (nx := 61) dX7_lots_59 rfl (by decide) rfl (st_s (st_s (st_s (st_s (st_s (st_s (st_s (st_s (st_0))))))))) ?_
        (unfold m_lots; rw [if_neg (Int32.not_lt.mpr h2), if_neg (Int32.not_lt.mpr h16), if_pos c30, kk]; exact lp_lots (by omega) n 0 D none none (Nat.zero_add _) h Fr.rf)
      · skip
        have n30 := nb h30
        refine X_aload_n (nx := 34) dX7_lots_33 rfl rfl rfl ?_
        refine X_bipush (v := -2) (nx := 36) dX7_lots_34 rfl rfl ?_
        refine Y_Vi1 (nx := 39) dX7_lots_36 rfl ml_RX7_51 kj_X7_refuse kv_X7_refuse (sp_X7_refuse (k := 2) rfl (by omega) (by omega)) (by first | assumption | rfl | decide | omega) (by first | assumption | rfl | decide | omega) (by decide) rfl (by first | decide | omega) (by exact Nat.le_of_ble_eq_true rfl) ?_
        exact Z_reti dX7_lots_39 (Or.inl rfl) (by unfold m_lots; rw [if_neg (Int32.not_lt.mpr h2), if_neg (Int32.not_lt.mpr h16), if_neg n30]; exact ck_no (k := 2) h Fr.rf (by omega) (by omega))
    · skip
      refine X_aload_n (nx := 20) dX7_lots_19 rfl rfl rfl ?_
      refine X_bipush (v := -6) (nx := 22) dX7_lots_20 rfl rfl ?_
      refine Y_Vi1 (nx := 25) dX7_lots_22 rfl ml_RX7_51 kj_X7_refuse kv_X7_refuse (sp_X7_refuse (k := 6) rfl (by omega) (by omega)) (by first | assumption | rfl | decide | omega) (by first | assumption | rfl | decide | omega) (by decide) rfl (by first | decide | omega) (by exact Nat.le_of_ble_eq_true rfl) ?_
      exact Z_reti dX7_lots_25 (Or.inl rfl) (by unfold m_lots; rw [if_neg (Int32.not_lt.mpr h2), if_pos (Int32.not_le.mp h16)]; exact ck_no (k := 6) h Fr.rf (by omega) (by omega))
  · skip
    refine X_aload_n (nx := 6) dX7_lots_5 rfl rfl rfl ?_
    refine X_bipush (v := -4) (nx := 8) dX7_lots_6 rfl rfl ?_
    refine Y_Vi1 (nx := 11) dX7_lots_8 rfl ml_RX7_51 kj_X7_refuse kv_X7_refuse (sp_X7_refuse (k := 4) rfl (by omega) (by omega)) (by first | assumption | rfl | decide | omega) (by first | assumption | rfl | decide | omega) (by decide) rfl (by first | decide | omega) (by exact Nat.le_of_ble_eq_true rfl) ?_
    exact Z_reti dX7_lots_11 (Or.inl rfl) (by unfold m_lots; rw [if_pos (Int32.not_le.mp h2)]; exact ck_no (k := 4) h Fr.rf (by omega) (by omega))
/-! powers, Euclid's steps -/
def lrem (x y : Int64) : Int64 := x - x / y * y
def euc : Nat → Int64 → Int64 → Int64
  | 0, x, _ => x
  | n + 1, x, y => if y = 0 then x else euc n y (lrem x y)
def pof (x y : Int64) (part : Int32) : Int64 := if euc 100 x y = 0 then 0 else if part = 0 then x / euc 100 x y else y / euc 100 x y
theorem cmp_0 {y : Int64} : lg_cmp y 0 = 0 ↔ y = 0 := by
  unfold lg_cmp
  constructor
  · intro h
    split at h
    · exact absurd h (by decide)
    · split at h
      · assumption
      · exact absurd h (by decide)
  · intro h
    subst h
    decide
theorem lN_one (b : Nat) : (1 : Int64) = lN (b ^ 0) := rfl
theorem dX7_power_0 : decode cX7_power 0 = .ok (.lconst 1, 1) := by decide +kernel
theorem dX7_power_1 : decode cX7_power 1 = .ok (.lstore_n 3, 1) := by decide +kernel
theorem dX7_power_2 : decode cX7_power 2 = .ok (.iconst 0, 1) := by decide +kernel
theorem dX7_power_3 : decode cX7_power 3 = .ok (.istore 5, 2) := by decide +kernel
theorem dX7_power_5 : decode cX7_power 5 = .ok (.iload 5, 2) := by decide +kernel
theorem dX7_power_7 : decode cX7_power 7 = .ok (.iload_n 2, 1) := by decide +kernel
theorem dX7_power_8 : decode cX7_power 8 = .ok (.if_icmp .ge 13, 3) := by decide +kernel
theorem dX7_power_11 : decode cX7_power 11 = .ok (.lload_n 3, 1) := by decide +kernel
theorem dX7_power_12 : decode cX7_power 12 = .ok (.lload_n 0, 1) := by decide +kernel
theorem dX7_power_13 : decode cX7_power 13 = .ok (.lmul, 1) := by decide +kernel
theorem dX7_power_14 : decode cX7_power 14 = .ok (.lstore_n 3, 1) := by decide +kernel
theorem dX7_power_15 : decode cX7_power 15 = .ok (.iinc 5 1, 3) := by decide +kernel
theorem dX7_power_18 : decode cX7_power 18 = .ok (.goto (-13), 3) := by decide +kernel
theorem dX7_power_21 : decode cX7_power 21 = .ok (.lload_n 3, 1) := by decide +kernel
theorem dX7_power_22 : decode cX7_power 22 = .ok (.lreturn, 1) := by decide +kernel
theorem lp_power {b n : Nat} {D : Mem} (hn : n < 1000) : ∀ (m : Nat) (i : Nat), i + m = n → X 1 138 j_X7_power 5 [some (.long (lN b)), none, some (.int (nI n)), some (.long (lN (b ^ i))), none, some (.int (nI i))] [] (138, P0, D) (fun x σ => x = [.long (lN (b ^ n))] ∧ σ = wd D) := by
  intro m
  induction m with
  | zero =>
    intro i hi
    refine X_iload (nx := 7) dX7_power_5 rfl rfl ?_
    refine X_iload_n (nx := 8) dX7_power_7 rfl rfl rfl ?_
    refine X_icmp_ge (tgt := 21) (nx := 11) dX7_power_8 rfl rfl (fun h8 => ?_) (fun h8 => ?_)
    · skip
      refine X_lload_n (nx := 22) dX7_power_21 rfl rfl rfl ?_
      exact Y_retl dX7_power_22 rfl (by obtain rfl : i = n := (by omega); rfl) rfl
    · exact absurd h8 (fun q => q (nI_le (by omega) (by omega)))
  | succ m ih =>
    intro i hi
    refine X_iload (nx := 7) dX7_power_5 rfl rfl ?_
    refine X_iload_n (nx := 8) dX7_power_7 rfl rfl rfl ?_
    refine X_icmp_ge (tgt := 21) (nx := 11) dX7_power_8 rfl rfl (fun h8 => ?_) (fun h8 => ?_)
    · exact absurd h8 (nI_ge (by omega) (by omega))
    · skip
      refine X_lload_n (nx := 12) dX7_power_11 rfl rfl rfl ?_
      refine X_lload_n (nx := 13) dX7_power_12 rfl rfl rfl ?_
      refine X_lmul (nx := 14) dX7_power_13 rfl ?_
      rw [lN_mul, ← Nat.pow_succ]
      refine X_lstore_n (i := 3) (nx := 15) dX7_power_14 rfl rfl (by decide) rfl ((congrArg (fun z => List.set z (3 + 1) none) (st_s (st_s (st_s (st_0))))).trans (st_s (st_s (st_s (st_s (st_0)))))) ?_
      refine X_iinc (nx := 18) dX7_power_15 rfl (by decide) rfl (by first | exact ii1 _ | rfl) rfl (st_s (st_s (st_s (st_s (st_s (st_0)))))) ?_
      refine X_goto (tgt := 5) dX7_power_18 rfl ?_
      exact ih (i + 1) (by omega)
theorem sp_X7_power {b n : Nat} {x : Int64} {y : Int32} {D : Mem} (hx : x = lN b) (hy : y = nI n) (hn : n < 1000) : El 1 j_X7_power [.long x, .int y] D (lN (b ^ n)) (D) := by
  refine E.start 3 (ls := [some (.long x), none, some (.int y), none, none, none]) (by decide +kernel) (Nat.le_of_ble_eq_true rfl) rfl (Nat.le_refl _) (Nat.le_refl _) ?_
  subst hx; subst hy
  refine X_lconst (v := 1) (nx := 1) dX7_power_0 rfl rfl ?_
  rw [lN_one b]
  refine X_lstore_n (i := 3) (nx := 2) dX7_power_1 rfl rfl (by decide) rfl ((congrArg (fun z => List.set z (3 + 1) none) (st_s (st_s (st_s (st_0))))).trans (st_s (st_s (st_s (st_s (st_0)))))) ?_
  refine X_iconst (v := nI 0) (nx := 3) dX7_power_2 rfl rfl ?_
  refine X_istore (i := 5) (nx := 5) dX7_power_3 rfl (by decide) rfl (st_s (st_s (st_s (st_s (st_s (st_0)))))) ?_
  exact lp_power hn n 0 (Nat.zero_add _)
theorem dX7_greatestDivisor_0 : decode cX7_greatestDivisor 0 = .ok (.lload_n 0, 1) := by decide +kernel
theorem dX7_greatestDivisor_1 : decode cX7_greatestDivisor 1 = .ok (.lstore 4, 2) := by decide +kernel
theorem dX7_greatestDivisor_3 : decode cX7_greatestDivisor 3 = .ok (.lload_n 2, 1) := by decide +kernel
theorem dX7_greatestDivisor_4 : decode cX7_greatestDivisor 4 = .ok (.lstore 6, 2) := by decide +kernel
theorem dX7_greatestDivisor_6 : decode cX7_greatestDivisor 6 = .ok (.iconst 0, 1) := by decide +kernel
theorem dX7_greatestDivisor_7 : decode cX7_greatestDivisor 7 = .ok (.istore 8, 2) := by decide +kernel
theorem dX7_greatestDivisor_9 : decode cX7_greatestDivisor 9 = .ok (.iload 8, 2) := by decide +kernel
theorem dX7_greatestDivisor_11 : decode cX7_greatestDivisor 11 = .ok (.bipush 100, 2) := by decide +kernel
theorem dX7_greatestDivisor_13 : decode cX7_greatestDivisor 13 = .ok (.if_icmp .ge 31, 3) := by decide +kernel
theorem dX7_greatestDivisor_16 : decode cX7_greatestDivisor 16 = .ok (.lload 6, 2) := by decide +kernel
theorem dX7_greatestDivisor_18 : decode cX7_greatestDivisor 18 = .ok (.lconst 0, 1) := by decide +kernel
theorem dX7_greatestDivisor_19 : decode cX7_greatestDivisor 19 = .ok (.lcmp, 1) := by decide +kernel
theorem dX7_greatestDivisor_20 : decode cX7_greatestDivisor 20 = .ok (.ifCond .eq 24, 3) := by decide +kernel
theorem dX7_greatestDivisor_23 : decode cX7_greatestDivisor 23 = .ok (.lload 4, 2) := by decide +kernel
theorem dX7_greatestDivisor_25 : decode cX7_greatestDivisor 25 = .ok (.lload 6, 2) := by decide +kernel
theorem dX7_greatestDivisor_27 : decode cX7_greatestDivisor 27 = .ok (.lrem, 1) := by decide +kernel
theorem dX7_greatestDivisor_28 : decode cX7_greatestDivisor 28 = .ok (.lstore 9, 2) := by decide +kernel
theorem dX7_greatestDivisor_30 : decode cX7_greatestDivisor 30 = .ok (.lload 6, 2) := by decide +kernel
theorem dX7_greatestDivisor_32 : decode cX7_greatestDivisor 32 = .ok (.lstore 4, 2) := by decide +kernel
theorem dX7_greatestDivisor_34 : decode cX7_greatestDivisor 34 = .ok (.lload 9, 2) := by decide +kernel
theorem dX7_greatestDivisor_36 : decode cX7_greatestDivisor 36 = .ok (.lstore 6, 2) := by decide +kernel
theorem dX7_greatestDivisor_38 : decode cX7_greatestDivisor 38 = .ok (.iinc 8 1, 3) := by decide +kernel
theorem dX7_greatestDivisor_41 : decode cX7_greatestDivisor 41 = .ok (.goto (-32), 3) := by decide +kernel
theorem dX7_greatestDivisor_44 : decode cX7_greatestDivisor 44 = .ok (.lload 4, 2) := by decide +kernel
theorem dX7_greatestDivisor_46 : decode cX7_greatestDivisor 46 = .ok (.lreturn, 1) := by decide +kernel
theorem lp_gcd {a b : Int64} {D : Mem} : ∀ (m : Nat) (i : Nat) (x y : Int64) (o9 o10 : Option Value), i + m = 100 → X 1 138 j_X7_greatestDivisor 9 [some (.long a), none, some (.long b), none, some (.long x), none, some (.long y), none, some (.int (nI i)), o9, o10] [] (138, P0, D) (fun r σ => r = [.long (euc m x y)] ∧ σ = wd D) := by
  intro m
  induction m with
  | zero =>
    intro i x y o9 o10 hi
    refine X_iload (nx := 11) dX7_greatestDivisor_9 rfl rfl ?_
    refine X_bipush (v := nI 100) (nx := 13) dX7_greatestDivisor_11 rfl rfl ?_
    refine X_icmp_ge (tgt := 44) (nx := 16) dX7_greatestDivisor_13 rfl rfl (fun h13 => ?_) (fun h13 => ?_)
    · skip
      refine X_lload (nx := 46) dX7_greatestDivisor_44 rfl rfl ?_
      exact Y_retl dX7_greatestDivisor_46 rfl rfl rfl
    · exact absurd h13 (fun q => q (nI_le (by omega) (by omega)))
  | succ m ih =>
    intro i x y o9 o10 hi
    refine X_iload (nx := 11) dX7_greatestDivisor_9 rfl rfl ?_
    refine X_bipush (v := nI 100) (nx := 13) dX7_greatestDivisor_11 rfl rfl ?_
    refine X_icmp_ge (tgt := 44) (nx := 16) dX7_greatestDivisor_13 rfl rfl (fun h13 => ?_) (fun h13 => ?_)
    · exact absurd h13 (nI_ge (by omega) (by omega))
    · skip
      refine X_lload (nx := 18) dX7_greatestDivisor_16 rfl rfl ?_
      refine X_lconst (v := 0) (nx := 19) dX7_greatestDivisor_18 rfl rfl ?_
      refine X_lcmp (nx := 20) dX7_greatestDivisor_19 rfl ?_
      refine X_if_eq (tgt := 44) (nx := 23) dX7_greatestDivisor_20 rfl rfl (fun h20 => ?_) (fun h20 => ?_)
      · skip
        rw [cmp_0] at h20
        rw [show euc (m + 1) x y = x from if_pos h20]
        refine X_lload (nx := 46) dX7_greatestDivisor_44 rfl rfl ?_
        exact Y_retl dX7_greatestDivisor_46 rfl rfl rfl
      · skip
        rw [cmp_0] at h20
        rw [show euc (m + 1) x y = euc m y (lrem x y) from if_neg h20]
        refine X_lload (nx := 25) dX7_greatestDivisor_23 rfl rfl ?_
        refine X_lload (nx := 27) dX7_greatestDivisor_25 rfl rfl ?_
        refine X_lrem (nx := 28) dX7_greatestDivisor_27 rfl h20 ?_
        refine X_lstore (i := 9) (nx := 30) dX7_greatestDivisor_28 rfl (by decide) rfl ((congrArg (fun z => List.set z (9 + 1) none) (st_s (st_s (st_s (st_s (st_s (st_s (st_s (st_s (st_s (st_0))))))))))).trans (st_s (st_s (st_s (st_s (st_s (st_s (st_s (st_s (st_s (st_s (st_0)))))))))))) ?_
        refine X_lload (nx := 32) dX7_greatestDivisor_30 rfl rfl ?_
        refine X_lstore (i := 4) (nx := 34) dX7_greatestDivisor_32 rfl (by decide) rfl ((congrArg (fun z => List.set z (4 + 1) none) (st_s (st_s (st_s (st_s (st_0)))))).trans (st_s (st_s (st_s (st_s (st_s (st_0))))))) ?_
        refine X_lload (nx := 36) dX7_greatestDivisor_34 rfl rfl ?_
        refine X_lstore (i := 6) (nx := 38) dX7_greatestDivisor_36 rfl (by decide) rfl ((congrArg (fun z => List.set z (6 + 1) none) (st_s (st_s (st_s (st_s (st_s (st_s (st_0)))))))).trans (st_s (st_s (st_s (st_s (st_s (st_s (st_s (st_0))))))))) ?_
        refine X_iinc (nx := 41) dX7_greatestDivisor_38 rfl (by decide) rfl (by first | exact ii1 _ | rfl) rfl (st_s (st_s (st_s (st_s (st_s (st_s (st_s (st_s (st_0))))))))) ?_
        refine X_goto (tgt := 9) dX7_greatestDivisor_41 rfl ?_
        exact ih (i + 1) y (lrem x y) _ _ (by omega)
theorem sp_X7_greatestDivisor {a b : Int64} {D : Mem} : El 1 j_X7_greatestDivisor [.long a, .long b] D (euc 100 a b) (D) := by
  refine E.start 7 (ls := [some (.long a), none, some (.long b), none, none, none, none, none, none, none, none]) (by decide +kernel) (Nat.le_of_ble_eq_true rfl) rfl (Nat.le_refl _) (Nat.le_refl _) ?_
  refine X_lload_n (nx := 1) dX7_greatestDivisor_0 rfl rfl rfl ?_
  refine X_lstore (i := 4) (nx := 3) dX7_greatestDivisor_1 rfl (by decide) rfl ((congrArg (fun z => List.set z (4 + 1) none) (st_s (st_s (st_s (st_s (st_0)))))).trans (st_s (st_s (st_s (st_s (st_s (st_0))))))) ?_
  refine X_lload_n (nx := 4) dX7_greatestDivisor_3 rfl rfl rfl ?_
  refine X_lstore (i := 6) (nx := 6) dX7_greatestDivisor_4 rfl (by decide) rfl ((congrArg (fun z => List.set z (6 + 1) none) (st_s (st_s (st_s (st_s (st_s (st_s (st_0)))))))).trans (st_s (st_s (st_s (st_s (st_s (st_s (st_s (st_0))))))))) ?_
  refine X_iconst (v := nI 0) (nx := 7) dX7_greatestDivisor_6 rfl rfl ?_
  refine X_istore (i := 8) (nx := 9) dX7_greatestDivisor_7 rfl (by decide) rfl (st_s (st_s (st_s (st_s (st_s (st_s (st_s (st_s (st_0))))))))) ?_
  exact lp_gcd 100 0 a b none none rfl
theorem dX7_partOfFraction_0 : decode cX7_partOfFraction 0 = .ok (.lload_n 0, 1) := by decide +kernel
theorem dX7_partOfFraction_1 : decode cX7_partOfFraction 1 = .ok (.lload_n 2, 1) := by decide +kernel
theorem dX7_partOfFraction_2 : decode cX7_partOfFraction 2 = .ok (.invokestatic 306, 3) := by decide +kernel
theorem dX7_partOfFraction_5 : decode cX7_partOfFraction 5 = .ok (.lstore 5, 2) := by decide +kernel
theorem dX7_partOfFraction_7 : decode cX7_partOfFraction 7 = .ok (.lload 5, 2) := by decide +kernel
theorem dX7_partOfFraction_9 : decode cX7_partOfFraction 9 = .ok (.lconst 0, 1) := by decide +kernel
theorem dX7_partOfFraction_10 : decode cX7_partOfFraction 10 = .ok (.lcmp, 1) := by decide +kernel
theorem dX7_partOfFraction_11 : decode cX7_partOfFraction 11 = .ok (.ifCond .ne 5, 3) := by decide +kernel
theorem dX7_partOfFraction_14 : decode cX7_partOfFraction 14 = .ok (.lconst 0, 1) := by decide +kernel
theorem dX7_partOfFraction_15 : decode cX7_partOfFraction 15 = .ok (.lreturn, 1) := by decide +kernel
theorem dX7_partOfFraction_16 : decode cX7_partOfFraction 16 = .ok (.iload 4, 2) := by decide +kernel
theorem dX7_partOfFraction_18 : decode cX7_partOfFraction 18 = .ok (.ifCond .ne 10, 3) := by decide +kernel
theorem dX7_partOfFraction_21 : decode cX7_partOfFraction 21 = .ok (.lload_n 0, 1) := by decide +kernel
theorem dX7_partOfFraction_22 : decode cX7_partOfFraction 22 = .ok (.lload 5, 2) := by decide +kernel
theorem dX7_partOfFraction_24 : decode cX7_partOfFraction 24 = .ok (.ldiv, 1) := by decide +kernel
theorem dX7_partOfFraction_25 : decode cX7_partOfFraction 25 = .ok (.goto 7, 3) := by decide +kernel
theorem dX7_partOfFraction_28 : decode cX7_partOfFraction 28 = .ok (.lload_n 2, 1) := by decide +kernel
theorem dX7_partOfFraction_29 : decode cX7_partOfFraction 29 = .ok (.lload 5, 2) := by decide +kernel
theorem dX7_partOfFraction_31 : decode cX7_partOfFraction 31 = .ok (.ldiv, 1) := by decide +kernel
theorem dX7_partOfFraction_32 : decode cX7_partOfFraction 32 = .ok (.lreturn, 1) := by decide +kernel
theorem sp_X7_partOfFraction {a b : Int64} {p : Int32} {D : Mem} : El 2 j_X7_partOfFraction [.long a, .long b, .int p] D (pof a b p) (D) := by
  refine E.start 2 (ls := [some (.long a), none, some (.long b), none, some (.int p), none, none]) (by decide +kernel) (Nat.le_of_ble_eq_true rfl) rfl (Nat.le_refl _) (Nat.le_refl _) ?_
  refine X_lload_n (nx := 1) dX7_partOfFraction_0 rfl rfl rfl ?_
  refine X_lload_n (nx := 2) dX7_partOfFraction_1 rfl rfl rfl ?_
  refine Y_Sl2 (nx := 5) dX7_partOfFraction_2 rfl ml_RX7_306 kj_X7_greatestDivisor ks_X7_greatestDivisor (sp_X7_greatestDivisor) (by first | decide | omega) (by exact Nat.le_of_ble_eq_true rfl) ?_
  refine X_lstore (i := 5) (nx := 7) dX7_partOfFraction_5 rfl (by decide) rfl ((congrArg (fun z => List.set z (5 + 1) none) (st_s (st_s (st_s (st_s (st_s (st_0))))))).trans (st_s (st_s (st_s (st_s (st_s (st_s (st_0)))))))) ?_
  refine X_lload (nx := 9) dX7_partOfFraction_7 rfl rfl ?_
  refine X_lconst (v := 0) (nx := 10) dX7_partOfFraction_9 rfl rfl ?_
  refine X_lcmp (nx := 11) dX7_partOfFraction_10 rfl ?_
  refine X_if_ne (tgt := 16) (nx := 14) dX7_partOfFraction_11 rfl rfl (fun h11 => ?_) (fun h11 => ?_)
  · skip
    rw [cmp_0] at h11
    refine X_iload (nx := 18) dX7_partOfFraction_16 rfl rfl ?_
    refine X_if_ne (tgt := 28) (nx := 21) dX7_partOfFraction_18 rfl rfl (fun h18 => ?_) (fun h18 => ?_)
    · skip
      refine X_lload_n (nx := 29) dX7_partOfFraction_28 rfl rfl rfl ?_
      refine X_lload (nx := 31) dX7_partOfFraction_29 rfl rfl ?_
      refine X_ldiv (nx := 32) dX7_partOfFraction_31 rfl h11 ?_
      exact Y_retl dX7_partOfFraction_32 rfl (by unfold pof; first | rw [if_pos h11] | rw [if_neg h11, if_pos h18] | rw [if_neg h11, if_neg h18]) rfl
    · skip
      refine X_lload_n (nx := 22) dX7_partOfFraction_21 rfl rfl rfl ?_
      refine X_lload (nx := 24) dX7_partOfFraction_22 rfl rfl ?_
      refine X_ldiv (nx := 25) dX7_partOfFraction_24 rfl h11 ?_
      refine X_goto (tgt := 32) dX7_partOfFraction_25 rfl ?_
      exact Y_retl dX7_partOfFraction_32 rfl (by unfold pof; first | rw [if_pos h11] | rw [if_neg h11, if_pos h18] | rw [if_neg h11, if_neg h18]) rfl
  · skip
    rw [cmp_0] at h11
    refine X_lconst (v := 0) (nx := 15) dX7_partOfFraction_14 rfl rfl ?_
    exact Y_retl dX7_partOfFraction_15 rfl (by unfold pof; first | rw [if_pos h11] | rw [if_neg h11, if_pos h18] | rw [if_neg h11, if_neg h18]) rfl
def noL (S : St) (k : Nat) : Int64 × St := (4000000000000000000 - (-(nI k)).toInt64, (no_ S k).2)
theorem cl_no {D D1 : Mem} {S : St} {k : Nat} (h : INV1 D1 S) (hf : Fr inC D D1) : CL D (noL S k) (4000000000000000000 - (-(nI k)).toInt64) (up2 D1 103 k (D1 103 k + 1)) := ⟨rfl, (inv_no h).1, hf.tr (inv_no h).2⟩
theorem cl_s {D D' : Mem} {S : St} {u v : Int64} (hu : u = v) (h : INV1 D' S) (hf : Fr inC D D') : CL D (v, S) u D' := ⟨hu, h, hf⟩
def m_mean (S : St) (y z : Int32) : Int64 × St :=
  if decide (0 ≤ y ∧ y < 4) = true ∧ decide (z = 0 ∨ z = 1) = true then (pof (nI (sumN (fun p => (MT S y.toNatClampNeg p).2) 341)).toInt64 341 z, S) else noL S 2
theorem dX7_mean_0 : decode cX7_mean 0 = .ok (.iload_n 1, 1) := by decide +kernel
theorem dX7_mean_1 : decode cX7_mean 1 = .ok (.invokestatic 115, 3) := by decide +kernel
theorem dX7_mean_4 : decode cX7_mean 4 = .ok (.ifCond .eq 10, 3) := by decide +kernel
theorem dX7_mean_7 : decode cX7_mean 7 = .ok (.iload_n 2, 1) := by decide +kernel
theorem dX7_mean_8 : decode cX7_mean 8 = .ok (.invokestatic 197, 3) := by decide +kernel
theorem dX7_mean_11 : decode cX7_mean 11 = .ok (.ifCond .ne 10, 3) := by decide +kernel
theorem dX7_mean_14 : decode cX7_mean 14 = .ok (.aload_n 0, 1) := by decide +kernel
theorem dX7_mean_15 : decode cX7_mean 15 = .ok (.bipush (-2), 2) := by decide +kernel
theorem dX7_mean_17 : decode cX7_mean 17 = .ok (.invokevirtual 235, 3) := by decide +kernel
theorem dX7_mean_20 : decode cX7_mean 20 = .ok (.lreturn, 1) := by decide +kernel
theorem dX7_mean_21 : decode cX7_mean 21 = .ok (.aload_n 0, 1) := by decide +kernel
theorem dX7_mean_22 : decode cX7_mean 22 = .ok (.getfield 25, 3) := by decide +kernel
theorem dX7_mean_25 : decode cX7_mean 25 = .ok (.iload_n 1, 1) := by decide +kernel
theorem dX7_mean_26 : decode cX7_mean 26 = .ok (.aload_n 0, 1) := by decide +kernel
theorem dX7_mean_27 : decode cX7_mean 27 = .ok (.getfield 10, 3) := by decide +kernel
theorem dX7_mean_30 : decode cX7_mean 30 = .ok (.invokevirtual 125, 3) := by decide +kernel
theorem dX7_mean_33 : decode cX7_mean 33 = .ok (.invokevirtual 206, 3) := by decide +kernel
theorem dX7_mean_36 : decode cX7_mean 36 = .ok (.aload_n 0, 1) := by decide +kernel
theorem dX7_mean_37 : decode cX7_mean 37 = .ok (.getfield 25, 3) := by decide +kernel
theorem dX7_mean_40 : decode cX7_mean 40 = .ok (.getfield 232, 3) := by decide +kernel
theorem dX7_mean_43 : decode cX7_mean 43 = .ok (.i2l, 1) := by decide +kernel
theorem dX7_mean_44 : decode cX7_mean 44 = .ok (.ldc2_w 247, 3) := by decide +kernel
theorem dX7_mean_47 : decode cX7_mean 47 = .ok (.iload_n 2, 1) := by decide +kernel
theorem dX7_mean_48 : decode cX7_mean 48 = .ok (.invokestatic 243, 3) := by decide +kernel
theorem dX7_mean_51 : decode cX7_mean 51 = .ok (.lreturn, 1) := by decide +kernel
theorem sp_X7_mean {y z : Int32} {S : St} {D : Mem} (h : INV1 D S) : Rlx 22 j_X7_mean [.ref 0, .int y, .int z] D (fun u D' => CL D (m_mean S y z) u D') := by
  refine E.start 0 (ls := [some (.ref 0), some (.int y), some (.int z)]) (by decide +kernel) (Nat.le_of_ble_eq_true rfl) rfl (Nat.le_refl _) (Nat.le_refl _) ?_
  have hcm := h.1.2.1.2.1
  refine X_iload_n (nx := 1) dX7_mean_0 rfl rfl rfl ?_
  refine Y_Si1 (nx := 4) dX7_mean_1 rfl ml_RX7_115 kj_X7_isVerb ks_X7_isVerb (sp_X7_isVerb) (by first | decide | omega) (by exact Nat.le_of_ble_eq_true rfl) ?_
  refine X_if_eq (tgt := 14) (nx := 7) dX7_mean_4 rfl rfl (fun h4 => ?_) (fun h4 => ?_)
  · skip
    have n4 := nb h4
    refine X_aload_n (nx := 15) dX7_mean_14 rfl rfl rfl ?_
    refine X_bipush (v := -2) (nx := 17) dX7_mean_15 rfl rfl ?_
    refine Y_Vl1 (nx := 20) dX7_mean_17 rfl ml_RX7_235 kj_X7_refuseLong kv_X7_refuseLong (sp_X7_refuseLong (k := 2) rfl (by omega) (by omega)) (by first | assumption | rfl | decide | omega) (by first | assumption | rfl | decide | omega) (by decide) rfl (by first | decide | omega) (by exact Nat.le_of_ble_eq_true rfl) ?_
    exact Z_retl dX7_mean_20 rfl (by unfold m_mean; rw [if_neg (fun q => by first | exact n4 q.1 | exact n11 q.2)]; exact cl_no (k := 2) h Fr.rf)
  · skip
    have c4 := b2i_t.mp h4
    obtain ⟨v, hv, rfl⟩ := ex_nI (N := 4) (n := 4) rfl (by decide) (of_decide_eq_true c4)
    have k4 : (nI v).toNatClampNeg = v := nI_clamp (by omega)
    refine X_iload_n (nx := 8) dX7_mean_7 rfl rfl rfl ?_
    refine Y_Si1 (nx := 11) dX7_mean_8 rfl ml_RX7_197 kj_X7_isOneOfTwo ks_X7_isOneOfTwo (sp_X7_isOneOfTwo) (by first | decide | omega) (by exact Nat.le_of_ble_eq_true rfl) ?_
    refine X_if_ne (tgt := 21) (nx := 14) dX7_mean_11 rfl rfl (fun h11 => ?_) (fun h11 => ?_)
    · skip
      have c11 := b2i_t.mp h11
      refine X_aload_n (nx := 22) dX7_mean_21 rfl rfl rfl ?_
      refine M_getP (nx := 25) dX7_mean_22 rfl fl_RX7_25 rfl (by first | assumption | rfl | decide | omega) (by first | assumption | rfl | decide | omega) (by first | assumption | rfl | decide | omega) ?_
      refine X_iload_n (nx := 26) dX7_mean_25 rfl rfl rfl ?_
      refine X_aload_n (nx := 27) dX7_mean_26 rfl rfl rfl ?_
      refine M_getP (nx := 30) dX7_mean_27 rfl fl_RX7_10 rfl (by first | assumption | rfl | decide | omega) (by first | assumption | rfl | decide | omega) (by first | assumption | rfl | decide | omega) ?_
      refine Y_Vi0 (nx := 33) dX7_mean_30 rfl ml_RX7_125 kj_X0_thereBits kv_X0_thereBits (sp_X0_thereBits (Or.inl rfl) h.1.1) (by first | assumption | rfl | decide | omega) (by first | assumption | rfl | decide | omega) (by decide) rfl (by first | decide | omega) (by exact Nat.le_of_ble_eq_true rfl) ?_
      refine Z_Vv2 (nx := 36) dX7_mean_33 rfl ml_RX7_206 kj_X6_bringAll kv_X6_bringAll (sp_X6_bringAll h rfl hv rfl (wS_lt S)) (by first | assumption | rfl | decide | omega) (by first | assumption | rfl | decide | omega) (by decide) rfl (by first | decide | omega) (by exact Nat.le_of_ble_eq_true rfl) (fun D33 g33 => ?_)
      refine X_aload_n (nx := 37) dX7_mean_36 rfl rfl rfl ?_
      refine M_getP (nx := 40) dX7_mean_37 rfl fl_RX7_25 rfl (by first | assumption | rfl | decide | omega) (by first | assumption | rfl | decide | omega) (by first | assumption | rfl | decide | omega) ?_
      refine M_getI (nx := 43) dX7_mean_40 rfl fl_RX7_232 rfl (by first | assumption | rfl | decide | omega) (by first | assumption | rfl | decide | omega) ?_
      refine X_top (g33.2.2.2) ?_
      refine X_i2l (nx := 44) dX7_mean_43 rfl ?_
      refine X_ldc2 (nx := 47) dX7_mean_44 rfl ct_RX7_247 ?_
      refine X_iload_n (nx := 48) dX7_mean_47 rfl rfl rfl ?_
      refine Y_Sl3 (nx := 51) dX7_mean_48 rfl ml_RX7_243 kj_X7_partOfFraction ks_X7_partOfFraction (sp_X7_partOfFraction) (by first | decide | omega) (by exact Nat.le_of_ble_eq_true rfl) ?_
      exact Z_retl dX7_mean_51 rfl (by unfold m_mean; rw [if_pos ⟨c4, c11⟩, k4]; exact cl_s rfl g33.1 g33.2.1.sc)
    · skip
      have n11 := nb h11
      refine X_aload_n (nx := 15) dX7_mean_14 rfl rfl rfl ?_
      refine X_bipush (v := -2) (nx := 17) dX7_mean_15 rfl rfl ?_
      refine Y_Vl1 (nx := 20) dX7_mean_17 rfl ml_RX7_235 kj_X7_refuseLong kv_X7_refuseLong (sp_X7_refuseLong (k := 2) rfl (by omega) (by omega)) (by first | assumption | rfl | decide | omega) (by first | assumption | rfl | decide | omega) (by decide) rfl (by first | decide | omega) (by exact Nat.le_of_ble_eq_true rfl) ?_
      exact Z_retl dX7_mean_20 rfl (by unfold m_mean; rw [if_neg (fun q => by first | exact n4 q.1 | exact n11 q.2)]; exact cl_no (k := 2) h Fr.rf)
def dS (S : St) : Nat := wS S % 64
def wg (S : St) (g : Nat) : Nat := mkn (fun i => thN (bk S) i && !g.testBit i) 10
def lsF (S : St) (p v t g : Nat) : Nat := if g &&& (63 - dS S) = 0 ∧ (mtE (bk S) (wg S g) v p (kd_ (bk S)) (fg_ (bk S))).isSome = true then (t - 1) ^ pop (dS S &&& (63 - g)) else 0
def m_lost (S : St) (x y z w : Int32) : Int64 × St :=
  if decide (0 ≤ x ∧ x < 341) = true then if decide (0 ≤ y ∧ y < 4) = true ∧ decide (w = 0 ∨ w = 1) = true then if z < 2 then noL S 4 else if 20 < z then noL S 6 else
    (pof (lN (sumN (lsF S x.toNatClampNeg y.toNatClampNeg z.toNatClampNeg) 64)) (lN (z.toNatClampNeg ^ pop (dS S))) w, S) else noL S 2 else noL S 1
theorem and64 : ∀ a, a < 64 → ∀ b, b < 64 → nI a &&& (nI b ^^^ -1) = nI (a &&& (63 - b)) := by decide +kernel
theorem andg {q : Nat → Bool} {g : Nat} (hg : g < 64) : nI (mkn q 10) &&& (nI g ^^^ -1) = nI (mkn (fun i => q i && !g.testBit i) 10) := by
  have := andnot q g.testBit
  rw [mkn_eta (show g < 2 ^ 10 by omega)] at this
  exact this
theorem pop_le (w : Nat) : pop w ≤ 10 := Nat.le_trans (List.length_filter_le _ _) (by decide)
theorem ls_z {S : St} {p v t g : Nat} (h : ¬ (g &&& (63 - dS S) = 0 ∧ (mtE (bk S) (wg S g) v p (kd_ (bk S)) (fg_ (bk S))).isSome = true)) : sumN (lsF S p v t) g = sumN (lsF S p v t) (g + 1) := by
  show _ = sumN (lsF S p v t) g + lsF S p v t g
  rw [show lsF S p v t g = 0 from if_neg h]; rfl
theorem ls_p {S : St} {p v t g : Nat} (h : g &&& (63 - dS S) = 0 ∧ (mtE (bk S) (wg S g) v p (kd_ (bk S)) (fg_ (bk S))).isSome = true) : lN (sumN (lsF S p v t) g) + lN ((t - 1) ^ pop (dS S &&& (63 - g))) = lN (sumN (lsF S p v t) (g + 1)) := by
  rw [lN_add]
  show _ = lN (sumN (lsF S p v t) g + lsF S p v t g)
  rw [show lsF S p v t g = (t - 1) ^ pop (dS S &&& (63 - g)) from if_pos h]
theorem dS_lt (S : St) : dS S < 64 := Nat.mod_lt _ (by decide)
theorem dX7_lost_0 : decode cX7_lost 0 = .ok (.iload_n 1, 1) := by decide +kernel
theorem dX7_lost_1 : decode cX7_lost 1 = .ok (.invokestatic 167, 3) := by decide +kernel
theorem dX7_lost_4 : decode cX7_lost 4 = .ok (.ifCond .ne 9, 3) := by decide +kernel
theorem dX7_lost_7 : decode cX7_lost 7 = .ok (.aload_n 0, 1) := by decide +kernel
theorem dX7_lost_8 : decode cX7_lost 8 = .ok (.iconst (-1), 1) := by decide +kernel
theorem dX7_lost_9 : decode cX7_lost 9 = .ok (.invokevirtual 235, 3) := by decide +kernel
theorem dX7_lost_12 : decode cX7_lost 12 = .ok (.lreturn, 1) := by decide +kernel
theorem dX7_lost_13 : decode cX7_lost 13 = .ok (.iload_n 2, 1) := by decide +kernel
theorem dX7_lost_14 : decode cX7_lost 14 = .ok (.invokestatic 115, 3) := by decide +kernel
theorem dX7_lost_17 : decode cX7_lost 17 = .ok (.ifCond .eq 11, 3) := by decide +kernel
theorem dX7_lost_20 : decode cX7_lost 20 = .ok (.iload 4, 2) := by decide +kernel
theorem dX7_lost_22 : decode cX7_lost 22 = .ok (.invokestatic 197, 3) := by decide +kernel
theorem dX7_lost_25 : decode cX7_lost 25 = .ok (.ifCond .ne 10, 3) := by decide +kernel
theorem dX7_lost_28 : decode cX7_lost 28 = .ok (.aload_n 0, 1) := by decide +kernel
theorem dX7_lost_29 : decode cX7_lost 29 = .ok (.bipush (-2), 2) := by decide +kernel
theorem dX7_lost_31 : decode cX7_lost 31 = .ok (.invokevirtual 235, 3) := by decide +kernel
theorem dX7_lost_34 : decode cX7_lost 34 = .ok (.lreturn, 1) := by decide +kernel
theorem dX7_lost_35 : decode cX7_lost 35 = .ok (.iload_n 3, 1) := by decide +kernel
theorem dX7_lost_36 : decode cX7_lost 36 = .ok (.iconst 2, 1) := by decide +kernel
theorem dX7_lost_37 : decode cX7_lost 37 = .ok (.if_icmp .ge 10, 3) := by decide +kernel
theorem dX7_lost_40 : decode cX7_lost 40 = .ok (.aload_n 0, 1) := by decide +kernel
theorem dX7_lost_41 : decode cX7_lost 41 = .ok (.bipush (-4), 2) := by decide +kernel
theorem dX7_lost_43 : decode cX7_lost 43 = .ok (.invokevirtual 235, 3) := by decide +kernel
theorem dX7_lost_46 : decode cX7_lost 46 = .ok (.lreturn, 1) := by decide +kernel
theorem dX7_lost_47 : decode cX7_lost 47 = .ok (.iload_n 3, 1) := by decide +kernel
theorem dX7_lost_48 : decode cX7_lost 48 = .ok (.bipush 20, 2) := by decide +kernel
theorem dX7_lost_50 : decode cX7_lost 50 = .ok (.if_icmp .le 10, 3) := by decide +kernel
theorem dX7_lost_53 : decode cX7_lost 53 = .ok (.aload_n 0, 1) := by decide +kernel
theorem dX7_lost_54 : decode cX7_lost 54 = .ok (.bipush (-6), 2) := by decide +kernel
theorem dX7_lost_56 : decode cX7_lost 56 = .ok (.invokevirtual 235, 3) := by decide +kernel
theorem dX7_lost_59 : decode cX7_lost 59 = .ok (.lreturn, 1) := by decide +kernel
theorem dX7_lost_60 : decode cX7_lost 60 = .ok (.aload_n 0, 1) := by decide +kernel
theorem dX7_lost_61 : decode cX7_lost 61 = .ok (.getfield 10, 3) := by decide +kernel
theorem dX7_lost_64 : decode cX7_lost 64 = .ok (.invokevirtual 125, 3) := by decide +kernel
theorem dX7_lost_67 : decode cX7_lost 67 = .ok (.istore 5, 2) := by decide +kernel
theorem dX7_lost_69 : decode cX7_lost 69 = .ok (.bipush 64, 2) := by decide +kernel
theorem dX7_lost_71 : decode cX7_lost 71 = .ok (.istore 6, 2) := by decide +kernel
theorem dX7_lost_73 : decode cX7_lost 73 = .ok (.iload 5, 2) := by decide +kernel
theorem dX7_lost_75 : decode cX7_lost 75 = .ok (.iload 6, 2) := by decide +kernel
theorem dX7_lost_77 : decode cX7_lost 77 = .ok (.iconst 1, 1) := by decide +kernel
theorem dX7_lost_78 : decode cX7_lost 78 = .ok (.isub, 1) := by decide +kernel
theorem dX7_lost_79 : decode cX7_lost 79 = .ok (.iand, 1) := by decide +kernel
theorem dX7_lost_80 : decode cX7_lost 80 = .ok (.istore 7, 2) := by decide +kernel
theorem dX7_lost_82 : decode cX7_lost 82 = .ok (.lconst 0, 1) := by decide +kernel
theorem dX7_lost_83 : decode cX7_lost 83 = .ok (.lstore 8, 2) := by decide +kernel
theorem dX7_lost_85 : decode cX7_lost 85 = .ok (.iconst 0, 1) := by decide +kernel
theorem dX7_lost_86 : decode cX7_lost 86 = .ok (.istore 10, 2) := by decide +kernel
theorem dX7_lost_88 : decode cX7_lost 88 = .ok (.iload 10, 2) := by decide +kernel
theorem dX7_lost_90 : decode cX7_lost 90 = .ok (.iload 6, 2) := by decide +kernel
theorem dX7_lost_92 : decode cX7_lost 92 = .ok (.if_icmp .ge 72, 3) := by decide +kernel
theorem dX7_lost_95 : decode cX7_lost 95 = .ok (.iload 10, 2) := by decide +kernel
theorem dX7_lost_97 : decode cX7_lost 97 = .ok (.iload 7, 2) := by decide +kernel
theorem dX7_lost_99 : decode cX7_lost 99 = .ok (.iconst (-1), 1) := by decide +kernel
theorem dX7_lost_100 : decode cX7_lost 100 = .ok (.ixor, 1) := by decide +kernel
theorem dX7_lost_101 : decode cX7_lost 101 = .ok (.iand, 1) := by decide +kernel
theorem dX7_lost_102 : decode cX7_lost 102 = .ok (.ifCond .ne 7, 3) := by decide +kernel
theorem dX7_lost_105 : decode cX7_lost 105 = .ok (.iconst 1, 1) := by decide +kernel
theorem dX7_lost_106 : decode cX7_lost 106 = .ok (.goto 4, 3) := by decide +kernel
theorem dX7_lost_109 : decode cX7_lost 109 = .ok (.iconst 0, 1) := by decide +kernel
theorem dX7_lost_110 : decode cX7_lost 110 = .ok (.istore 11, 2) := by decide +kernel
theorem dX7_lost_112 : decode cX7_lost 112 = .ok (.iload 11, 2) := by decide +kernel
theorem dX7_lost_114 : decode cX7_lost 114 = .ok (.ifCond .eq 44, 3) := by decide +kernel
theorem dX7_lost_117 : decode cX7_lost 117 = .ok (.aload_n 0, 1) := by decide +kernel
theorem dX7_lost_118 : decode cX7_lost 118 = .ok (.getfield 25, 3) := by decide +kernel
theorem dX7_lost_121 : decode cX7_lost 121 = .ok (.iload_n 1, 1) := by decide +kernel
theorem dX7_lost_122 : decode cX7_lost 122 = .ok (.iload_n 2, 1) := by decide +kernel
theorem dX7_lost_123 : decode cX7_lost 123 = .ok (.iload 5, 2) := by decide +kernel
theorem dX7_lost_125 : decode cX7_lost 125 = .ok (.iload 10, 2) := by decide +kernel
theorem dX7_lost_127 : decode cX7_lost 127 = .ok (.iconst (-1), 1) := by decide +kernel
theorem dX7_lost_128 : decode cX7_lost 128 = .ok (.ixor, 1) := by decide +kernel
theorem dX7_lost_129 : decode cX7_lost 129 = .ok (.iand, 1) := by decide +kernel
theorem dX7_lost_130 : decode cX7_lost 130 = .ok (.invokevirtual 180, 3) := by decide +kernel
theorem dX7_lost_133 : decode cX7_lost 133 = .ok (.ifCond .lt 25, 3) := by decide +kernel
theorem dX7_lost_136 : decode cX7_lost 136 = .ok (.lload 8, 2) := by decide +kernel
theorem dX7_lost_138 : decode cX7_lost 138 = .ok (.iload_n 3, 1) := by decide +kernel
theorem dX7_lost_139 : decode cX7_lost 139 = .ok (.iconst 1, 1) := by decide +kernel
theorem dX7_lost_140 : decode cX7_lost 140 = .ok (.isub, 1) := by decide +kernel
theorem dX7_lost_141 : decode cX7_lost 141 = .ok (.i2l, 1) := by decide +kernel
theorem dX7_lost_142 : decode cX7_lost 142 = .ok (.iload 7, 2) := by decide +kernel
theorem dX7_lost_144 : decode cX7_lost 144 = .ok (.iload 10, 2) := by decide +kernel
theorem dX7_lost_146 : decode cX7_lost 146 = .ok (.iconst (-1), 1) := by decide +kernel
theorem dX7_lost_147 : decode cX7_lost 147 = .ok (.ixor, 1) := by decide +kernel
theorem dX7_lost_148 : decode cX7_lost 148 = .ok (.iand, 1) := by decide +kernel
theorem dX7_lost_149 : decode cX7_lost 149 = .ok (.invokestatic 129, 3) := by decide +kernel
theorem dX7_lost_152 : decode cX7_lost 152 = .ok (.invokestatic 239, 3) := by decide +kernel
theorem dX7_lost_155 : decode cX7_lost 155 = .ok (.ladd, 1) := by decide +kernel
theorem dX7_lost_156 : decode cX7_lost 156 = .ok (.lstore 8, 2) := by decide +kernel
theorem dX7_lost_158 : decode cX7_lost 158 = .ok (.iinc 10 1, 3) := by decide +kernel
theorem dX7_lost_161 : decode cX7_lost 161 = .ok (.goto (-73), 3) := by decide +kernel
theorem dX7_lost_164 : decode cX7_lost 164 = .ok (.lload 8, 2) := by decide +kernel
theorem dX7_lost_166 : decode cX7_lost 166 = .ok (.iload_n 3, 1) := by decide +kernel
theorem dX7_lost_167 : decode cX7_lost 167 = .ok (.i2l, 1) := by decide +kernel
theorem dX7_lost_168 : decode cX7_lost 168 = .ok (.iload 7, 2) := by decide +kernel
theorem dX7_lost_170 : decode cX7_lost 170 = .ok (.invokestatic 129, 3) := by decide +kernel
theorem dX7_lost_173 : decode cX7_lost 173 = .ok (.invokestatic 239, 3) := by decide +kernel
theorem dX7_lost_176 : decode cX7_lost 176 = .ok (.iload 4, 2) := by decide +kernel
theorem dX7_lost_178 : decode cX7_lost 178 = .ok (.invokestatic 243, 3) := by decide +kernel
theorem dX7_lost_181 : decode cX7_lost 181 = .ok (.lreturn, 1) := by decide +kernel
theorem lp_lost {S : St} {D : Mem} {p v t : Nat} {w : Int32} (hp : p < 341) (hv : v < 4) (ht : 2 ≤ t ∧ t ≤ 20) : ∀ (m : Nat) (g : Nat) (D1 : Mem) (y : Option Value), g + m = 64 → INV1 D1 S → Fr inC D D1 → X 21 138 j_X7_lost 88 [some (.ref 0), some (.int (nI p)), some (.int (nI v)), some (.int (nI t)), some (.int w), some (.int (nI (wS S))), some (.int (nI 64)), some (.int (nI (dS S))), some (.long (lN (sumN (lsF S p v t) g))), none, some (.int (nI g)), y] [] (138, P0, D1) (fun x σ => ∃ (u : Int64) (D' : Mem), x = [.long u] ∧ σ = wd D' ∧ CL D (pof (lN (sumN (lsF S p v t) 64)) (lN (t ^ pop (dS S))) w, S) u D') := by
  intro m
  induction m with
  | zero =>
    intro g D1 y hi h hf
    refine X_iload (nx := 90) dX7_lost_88 rfl rfl ?_
    refine X_iload (nx := 92) dX7_lost_90 rfl rfl ?_
    refine X_icmp_ge (tgt := 164) (nx := 95) dX7_lost_92 rfl rfl (fun h92 => ?_) (fun h92 => ?_)
    · skip
      refine X_lload (nx := 166) dX7_lost_164 rfl rfl ?_
      refine X_iload_n (nx := 167) dX7_lost_166 rfl rfl rfl ?_
      refine X_i2l (nx := 168) dX7_lost_167 rfl ?_
      rw [nI_l (show t < 2 ^ 31 by omega)]
      refine X_iload (nx := 170) dX7_lost_168 rfl rfl ?_
      refine Y_Si1 (nx := 173) dX7_lost_170 rfl ml_RX7_129 kj_J6_bitCount_0f7a4 ks_J6_bitCount_0f7a4 (sp_J6_bitCount_0f7a4 rfl (by have := dS_lt S; omega)) (by first | decide | omega) (by exact Nat.le_of_ble_eq_true rfl) ?_
      refine Y_Sl2 (nx := 176) dX7_lost_173 rfl ml_RX7_239 kj_X7_power ks_X7_power (sp_X7_power rfl rfl (by have := pop_le (dS S); omega)) (by first | decide | omega) (by exact Nat.le_of_ble_eq_true rfl) ?_
      refine X_iload (nx := 178) dX7_lost_176 rfl rfl ?_
      refine Y_Sl3 (nx := 181) dX7_lost_178 rfl ml_RX7_243 kj_X7_partOfFraction ks_X7_partOfFraction (sp_X7_partOfFraction) (by first | decide | omega) (by exact Nat.le_of_ble_eq_true rfl) ?_
      exact Z_retl dX7_lost_181 rfl (by obtain rfl : g = 64 := (by omega); exact cl_s rfl h hf)
    · exact absurd h92 (fun q => q (nI_le (by omega) (by omega)))
  | succ m ih =>
    intro g D1 y hi h hf
    refine X_iload (nx := 90) dX7_lost_88 rfl rfl ?_
    refine X_iload (nx := 92) dX7_lost_90 rfl rfl ?_
    refine X_icmp_ge (tgt := 164) (nx := 95) dX7_lost_92 rfl rfl (fun h92 => ?_) (fun h92 => ?_)
    · exact absurd h92 (nI_ge (by omega) (by omega))
    · skip
      refine X_iload (nx := 97) dX7_lost_95 rfl rfl ?_
      refine X_iload (nx := 99) dX7_lost_97 rfl rfl ?_
      refine X_iconst (v := -1) (nx := 100) dX7_lost_99 rfl rfl ?_
      refine X_ixor (nx := 101) dX7_lost_100 rfl ?_
      refine X_iand (nx := 102) dX7_lost_101 rfl ?_
      refine X_top (and64 g (by omega) (dS S) (dS_lt S)) ?_
      refine X_if_ne (tgt := 109) (nx := 105) dX7_lost_102 rfl rfl (fun h102 => ?_) (fun h102 => ?_)
      · skip
        rw [nI_0' (Nat.lt_of_le_of_lt Nat.and_le_left (by omega))] at h102
        have hz := ls_z (S := S) (p := p) (v := v) (t := t) (g := g) (fun q => h102 q.1)
        rw [hz]
        refine X_iconst (v := 0) (nx := 110) dX7_lost_109 rfl rfl ?_
        refine X_istore (i := 11) (nx := 112) dX7_lost_110 rfl (by decide) rfl (st_s (st_s (st_s (st_s (st_s (st_s (st_s (st_s (st_s (st_s (st_s (st_0)))))))))))) ?_
        refine X_iload (nx := 114) dX7_lost_112 rfl rfl ?_
        refine X_if_eq (tgt := 158) (nx := 117) dX7_lost_114 rfl rfl (fun h114 => ?_) (fun h114 => ?_)
        · skip
          refine X_iinc (nx := 161) dX7_lost_158 rfl (by decide) rfl (by first | exact ii1 _ | rfl) rfl (st_s (st_s (st_s (st_s (st_s (st_s (st_s (st_s (st_s (st_s (st_0))))))))))) ?_
          refine X_goto (tgt := 88) dX7_lost_161 rfl ?_
          first
            | exact ih (g + 1) D130 _ (by omega) g130.1 (hf.tr g130.2.1.sc)
            | exact ih (g + 1) D1 _ (by omega) h hf
        · exact absurd h114 (by decide)
      · skip
        have z102 := (nI_0' (Nat.lt_of_le_of_lt Nat.and_le_left (by omega))).mp h102
        refine X_iconst (v := 1) (nx := 106) dX7_lost_105 rfl rfl ?_
        refine X_goto (tgt := 110) dX7_lost_106 rfl ?_
        refine X_istore (i := 11) (nx := 112) dX7_lost_110 rfl (by decide) rfl (st_s (st_s (st_s (st_s (st_s (st_s (st_s (st_s (st_s (st_s (st_s (st_0)))))))))))) ?_
        refine X_iload (nx := 114) dX7_lost_112 rfl rfl ?_
        refine X_if_eq (tgt := 158) (nx := 117) dX7_lost_114 rfl rfl (fun h114 => ?_) (fun h114 => ?_)
        · exact absurd h114 (by decide)
        · skip
          refine X_aload_n (nx := 118) dX7_lost_117 rfl rfl rfl ?_
          refine M_getP (nx := 121) dX7_lost_118 rfl fl_RX7_25 rfl (by first | assumption | rfl | decide | omega) (by first | assumption | rfl | decide | omega) (by first | assumption | rfl | decide | omega) ?_
          refine X_iload_n (nx := 122) dX7_lost_121 rfl rfl rfl ?_
          refine X_iload_n (nx := 123) dX7_lost_122 rfl rfl rfl ?_
          refine X_iload (nx := 125) dX7_lost_123 rfl rfl ?_
          refine X_iload (nx := 127) dX7_lost_125 rfl rfl ?_
          refine X_iconst (v := -1) (nx := 128) dX7_lost_127 rfl rfl ?_
          refine X_ixor (nx := 129) dX7_lost_128 rfl ?_
          refine X_iand (nx := 130) dX7_lost_129 rfl ?_
          refine X_top (show _ = nI (wg S g) from andg (by omega)) ?_
          refine Z_Vi3 (nx := 133) dX7_lost_130 rfl ml_RX7_180 kj_X6_bring kv_X6_bring (sp_X6_bring h rfl hp rfl hv rfl (mkn_lt _ 10)) (by first | assumption | rfl | decide | omega) (by first | assumption | rfl | decide | omega) (by decide) rfl (by first | decide | omega) (by exact Nat.le_of_ble_eq_true rfl) (fun u130 D130 g130 => ?_)
          refine X_if_lt (tgt := 158) (nx := 136) dX7_lost_133 rfl rfl (fun h133 => ?_) (fun h133 => ?_)
          · skip
            have hz := ls_z (S := S) (p := p) (v := v) (t := t) (g := g) (fun q => by have e1 := brg_no g130 h133; rw [q.2] at e1; cases e1)
            rw [hz]
            refine X_iinc (nx := 161) dX7_lost_158 rfl (by decide) rfl (by first | exact ii1 _ | rfl) rfl (st_s (st_s (st_s (st_s (st_s (st_s (st_s (st_s (st_s (st_s (st_0))))))))))) ?_
            refine X_goto (tgt := 88) dX7_lost_161 rfl ?_
            first
              | exact ih (g + 1) D130 _ (by omega) g130.1 (hf.tr g130.2.1.sc)
              | exact ih (g + 1) D1 _ (by omega) h hf
          · skip
            refine X_lload (nx := 138) dX7_lost_136 rfl rfl ?_
            refine X_iload_n (nx := 139) dX7_lost_138 rfl rfl rfl ?_
            refine X_iconst (v := nI 1) (nx := 140) dX7_lost_139 rfl rfl ?_
            refine X_isub (nx := 141) dX7_lost_140 rfl ?_
            refine X_top (sub_nI (by omega)) ?_
            refine X_i2l (nx := 142) dX7_lost_141 rfl ?_
            rw [nI_l (show t - 1 < 2 ^ 31 by omega)]
            refine X_iload (nx := 144) dX7_lost_142 rfl rfl ?_
            refine X_iload (nx := 146) dX7_lost_144 rfl rfl ?_
            refine X_iconst (v := -1) (nx := 147) dX7_lost_146 rfl rfl ?_
            refine X_ixor (nx := 148) dX7_lost_147 rfl ?_
            refine X_iand (nx := 149) dX7_lost_148 rfl ?_
            refine X_top (and64 (dS S) (dS_lt S) g (by omega)) ?_
            refine Y_Si1 (nx := 152) dX7_lost_149 rfl ml_RX7_129 kj_J6_bitCount_0f7a4 ks_J6_bitCount_0f7a4 (sp_J6_bitCount_0f7a4 rfl (Nat.lt_of_le_of_lt Nat.and_le_left (by have := dS_lt S; omega))) (by first | decide | omega) (by exact Nat.le_of_ble_eq_true rfl) ?_
            refine Y_Sl2 (nx := 155) dX7_lost_152 rfl ml_RX7_239 kj_X7_power ks_X7_power (sp_X7_power rfl rfl (by have := pop_le (dS S &&& (63 - g)); omega)) (by first | decide | omega) (by exact Nat.le_of_ble_eq_true rfl) ?_
            refine X_ladd (nx := 156) dX7_lost_155 rfl ?_
            rw [ls_p ⟨z102, brg_yes g130 h133⟩]
            refine X_lstore (i := 8) (nx := 158) dX7_lost_156 rfl (by decide) rfl ((congrArg (fun z => List.set z (8 + 1) none) (st_s (st_s (st_s (st_s (st_s (st_s (st_s (st_s (st_0)))))))))).trans (st_s (st_s (st_s (st_s (st_s (st_s (st_s (st_s (st_s (st_0))))))))))) ?_
            refine X_iinc (nx := 161) dX7_lost_158 rfl (by decide) rfl (by first | exact ii1 _ | rfl) rfl (st_s (st_s (st_s (st_s (st_s (st_s (st_s (st_s (st_s (st_s (st_0))))))))))) ?_
            refine X_goto (tgt := 88) dX7_lost_161 rfl ?_
            first
              | exact ih (g + 1) D130 _ (by omega) g130.1 (hf.tr g130.2.1.sc)
              | exact ih (g + 1) D1 _ (by omega) h hf
theorem sp_X7_lost {x y z w : Int32} {S : St} {D : Mem} (h : INV1 D S) : Rlx 21 j_X7_lost [.ref 0, .int x, .int y, .int z, .int w] D (fun u D' => CL D (m_lost S x y z w) u D') := by
  refine E.start 7 (ls := [some (.ref 0), some (.int x), some (.int y), some (.int z), some (.int w), none, none, none, none, none, none, none]) (by decide +kernel) (Nat.le_of_ble_eq_true rfl) rfl (Nat.le_refl _) (Nat.le_refl _) ?_
  have hcm := h.1.2.1.2.1
  refine X_iload_n (nx := 1) dX7_lost_0 rfl rfl rfl ?_
  refine Y_Si1 (nx := 4) dX7_lost_1 rfl ml_RX7_167 kj_X7_isPath ks_X7_isPath (sp_X7_isPath) (by first | decide | omega) (by exact Nat.le_of_ble_eq_true rfl) ?_
  refine X_if_ne (tgt := 13) (nx := 7) dX7_lost_4 rfl rfl (fun h4 => ?_) (fun h4 => ?_)
  · skip
    have c4 := b2i_t.mp h4
    obtain ⟨p, hp, rfl⟩ := ex_nI (N := 341) (n := 341) rfl (by decide) (of_decide_eq_true c4)
    have k4 : (nI p).toNatClampNeg = p := nI_clamp (by omega)
    refine X_iload_n (nx := 14) dX7_lost_13 rfl rfl rfl ?_
    refine Y_Si1 (nx := 17) dX7_lost_14 rfl ml_RX7_115 kj_X7_isVerb ks_X7_isVerb (sp_X7_isVerb) (by first | decide | omega) (by exact Nat.le_of_ble_eq_true rfl) ?_
    refine X_if_eq (tgt := 28) (nx := 20) dX7_lost_17 rfl rfl (fun h17 => ?_) (fun h17 => ?_)
    · skip
      have n17 := nb h17
      refine X_aload_n (nx := 29) dX7_lost_28 rfl rfl rfl ?_
      refine X_bipush (v := -2) (nx := 31) dX7_lost_29 rfl rfl ?_
      refine Y_Vl1 (nx := 34) dX7_lost_31 rfl ml_RX7_235 kj_X7_refuseLong kv_X7_refuseLong (sp_X7_refuseLong (k := 2) rfl (by omega) (by omega)) (by first | assumption | rfl | decide | omega) (by first | assumption | rfl | decide | omega) (by decide) rfl (by first | decide | omega) (by exact Nat.le_of_ble_eq_true rfl) ?_
      exact Z_retl dX7_lost_34 rfl (by unfold m_lost; rw [if_pos c4, if_neg (fun q => by first | exact n17 q.1 | exact n25 q.2)]; exact cl_no (k := 2) h Fr.rf)
    · skip
      have c17 := b2i_t.mp h17
      obtain ⟨v, hv, rfl⟩ := ex_nI (N := 4) (n := 4) rfl (by decide) (of_decide_eq_true c17)
      have k17 : (nI v).toNatClampNeg = v := nI_clamp (by omega)
      refine X_iload (nx := 22) dX7_lost_20 rfl rfl ?_
      refine Y_Si1 (nx := 25) dX7_lost_22 rfl ml_RX7_197 kj_X7_isOneOfTwo ks_X7_isOneOfTwo (sp_X7_isOneOfTwo) (by first | decide | omega) (by exact Nat.le_of_ble_eq_true rfl) ?_
      refine X_if_ne (tgt := 35) (nx := 28) dX7_lost_25 rfl rfl (fun h25 => ?_) (fun h25 => ?_)
      · skip
        have c25 := b2i_t.mp h25
        refine X_iload_n (nx := 36) dX7_lost_35 rfl rfl rfl ?_
        refine X_iconst (v := 2) (nx := 37) dX7_lost_36 rfl rfl ?_
        refine X_icmp_ge (tgt := 47) (nx := 40) dX7_lost_37 rfl rfl (fun h37 => ?_) (fun h37 => ?_)
        · skip
          refine X_iload_n (nx := 48) dX7_lost_47 rfl rfl rfl ?_
          refine X_bipush (v := 20) (nx := 50) dX7_lost_48 rfl rfl ?_
          refine X_icmp_le (tgt := 60) (nx := 53) dX7_lost_50 rfl rfl (fun h50 => ?_) (fun h50 => ?_)
          · skip
            obtain ⟨t, ht, rfl⟩ := ex_nI (x := z) (N := 21) (n := 21) rfl (by decide) ⟨Int32.le_trans (by decide) h37, Int32.lt_of_le_of_lt h50 (by decide)⟩
            have kk : (nI t).toNatClampNeg = t := nI_clamp (by omega)
            have ht2 : 2 ≤ t := (nI_leI (by omega) (by omega)).mp h37
            refine X_aload_n (nx := 61) dX7_lost_60 rfl rfl rfl ?_
            refine M_getP (nx := 64) dX7_lost_61 rfl fl_RX7_10 rfl (by first | assumption | rfl | decide | omega) (by first | assumption | rfl | decide | omega) (by first | assumption | rfl | decide | omega) ?_
            refine Y_Vi0 (nx := 67) dX7_lost_64 rfl ml_RX7_125 kj_X0_thereBits kv_X0_thereBits (sp_X0_thereBits (Or.inl rfl) h.1.1) (by first | assumption | rfl | decide | omega) (by first | assumption | rfl | decide | omega) (by decide) rfl (by first | decide | omega) (by exact Nat.le_of_ble_eq_true rfl) ?_
            refine X_istore (i := 5) (nx := 69) dX7_lost_67 rfl (by decide) rfl (st_s (st_s (st_s (st_s (st_s (st_0)))))) ?_
            refine X_bipush (v := nI 64) (nx := 71) dX7_lost_69 rfl rfl ?_
            refine X_istore (i := 6) (nx := 73) dX7_lost_71 rfl (by decide) rfl (st_s (st_s (st_s (st_s (st_s (st_s (st_0))))))) ?_
            refine X_iload (nx := 75) dX7_lost_73 rfl rfl ?_
            refine X_iload (nx := 77) dX7_lost_75 rfl rfl ?_
            refine X_iconst (v := 1) (nx := 78) dX7_lost_77 rfl rfl ?_
            refine X_isub (nx := 79) dX7_lost_78 rfl ?_
            refine X_iand (nx := 80) dX7_lost_79 rfl ?_
            refine X_top (show _ = nI (dS S) from pk_andN (by have := wS_lt S; exact Nat.lt_trans this (by decide)) 6 (by decide)) ?_
            refine X_istore (i := 7) (nx := 82) dX7_lost_80 rfl (by decide) rfl (st_s (st_s (st_s (st_s (st_s (st_s (st_s (st_0)))))))) ?_
            refine X_lconst (v := 0) (nx := 83) dX7_lost_82 rfl rfl ?_
            refine X_lstore (i := 8) (nx := 85) dX7_lost_83 rfl (by decide) rfl ((congrArg (fun z => List.set z (8 + 1) none) (st_s (st_s (st_s (st_s (st_s (st_s (st_s (st_s (st_0)))))))))).trans (st_s (st_s (st_s (st_s (st_s (st_s (st_s (st_s (st_s (st_0))))))))))) ?_
            refine X_iconst (v := nI 0) (nx := 86) dX7_lost_85 rfl rfl ?_
            refine X_istore (i := 10) (nx := 88) dX7_lost_86 rfl (by decide) rfl (st_s (st_s (st_s (st_s (st_s (st_s (st_s (st_s (st_s (st_s (st_0))))))))))) ?_
            (unfold m_lost; rw [if_pos c4, if_pos ⟨c17, c25⟩, if_neg (Int32.not_lt.mpr h37), if_neg (Int32.not_lt.mpr h50), k4, k17, kk]; exact lp_lost hp hv ⟨ht2, by omega⟩ 64 0 D none rfl h Fr.rf)
          · skip
            refine X_aload_n (nx := 54) dX7_lost_53 rfl rfl rfl ?_
            refine X_bipush (v := -6) (nx := 56) dX7_lost_54 rfl rfl ?_
            refine Y_Vl1 (nx := 59) dX7_lost_56 rfl ml_RX7_235 kj_X7_refuseLong kv_X7_refuseLong (sp_X7_refuseLong (k := 6) rfl (by omega) (by omega)) (by first | assumption | rfl | decide | omega) (by first | assumption | rfl | decide | omega) (by decide) rfl (by first | decide | omega) (by exact Nat.le_of_ble_eq_true rfl) ?_
            exact Z_retl dX7_lost_59 rfl (by unfold m_lost; rw [if_pos c4, if_pos ⟨c17, c25⟩, if_neg (Int32.not_lt.mpr h37), if_pos (Int32.not_le.mp h50)]; exact cl_no (k := 6) h Fr.rf)
        · skip
          refine X_aload_n (nx := 41) dX7_lost_40 rfl rfl rfl ?_
          refine X_bipush (v := -4) (nx := 43) dX7_lost_41 rfl rfl ?_
          refine Y_Vl1 (nx := 46) dX7_lost_43 rfl ml_RX7_235 kj_X7_refuseLong kv_X7_refuseLong (sp_X7_refuseLong (k := 4) rfl (by omega) (by omega)) (by first | assumption | rfl | decide | omega) (by first | assumption | rfl | decide | omega) (by decide) rfl (by first | decide | omega) (by exact Nat.le_of_ble_eq_true rfl) ?_
          exact Z_retl dX7_lost_46 rfl (by unfold m_lost; rw [if_pos c4, if_pos ⟨c17, c25⟩, if_pos (Int32.not_le.mp h37)]; exact cl_no (k := 4) h Fr.rf)
      · skip
        have n25 := nb h25
        refine X_aload_n (nx := 29) dX7_lost_28 rfl rfl rfl ?_
        refine X_bipush (v := -2) (nx := 31) dX7_lost_29 rfl rfl ?_
        refine Y_Vl1 (nx := 34) dX7_lost_31 rfl ml_RX7_235 kj_X7_refuseLong kv_X7_refuseLong (sp_X7_refuseLong (k := 2) rfl (by omega) (by omega)) (by first | assumption | rfl | decide | omega) (by first | assumption | rfl | decide | omega) (by decide) rfl (by first | decide | omega) (by exact Nat.le_of_ble_eq_true rfl) ?_
        exact Z_retl dX7_lost_34 rfl (by unfold m_lost; rw [if_pos c4, if_neg (fun q => by first | exact n17 q.1 | exact n25 q.2)]; exact cl_no (k := 2) h Fr.rf)
  · skip
    have n4 := nb h4
    refine X_aload_n (nx := 8) dX7_lost_7 rfl rfl rfl ?_
    refine X_iconst (v := -1) (nx := 9) dX7_lost_8 rfl rfl ?_
    refine Y_Vl1 (nx := 12) dX7_lost_9 rfl ml_RX7_235 kj_X7_refuseLong kv_X7_refuseLong (sp_X7_refuseLong (k := 1) rfl (by omega) (by omega)) (by first | assumption | rfl | decide | omega) (by first | assumption | rfl | decide | omega) (by decide) rfl (by first | decide | omega) (by exact Nat.le_of_ble_eq_true rfl) ?_
    exact Z_retl dX7_lost_12 rfl (by unfold m_lost; rw [if_neg n4]; exact cl_no (k := 1) h Fr.rf)
