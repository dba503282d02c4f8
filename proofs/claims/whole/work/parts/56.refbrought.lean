/-! THE REFERENCE: brought, never, mean, lots -/
theorem mo_is {D D' : Mem} {B : Bk} {T : Nat → Bool} {K F : Nat → Nat} {v p r : Nat} {u : Int32} (g : BR2 B T K F v p D u D') (hr : r < 10) : u = nI r ↔ mtE B (wT B T) v p K F = some r := by
  rw [g.2.2.1]
  cases hm : mtE B (wT B T) v p K F with
  | none => exact ⟨fun q => absurd q.symm (by have := nI_neg (n := r) (by omega); intro e; rw [e] at this; exact this (by decide)), fun q => by cases q⟩
  | some k =>
    have := g.lt hm
    exact ⟨fun q => by rw [(nI_eq (a := k) (b := r) (by omega) (by omega)).mp q], fun q => by cases q; rfl⟩
def brP (S : St) (r : Nat) : Nat → Bool := fun p => decide (ME S (avN (bk S) r) p = some r)
theorem brP_t {D D' : Mem} {S : St} {p r : Nat} {u : Int32} (g : BR2 (bk S) (th_ (bk S)) (kd_ (bk S)) (fg_ (bk S)) (avN (bk S) r) p D u D') (hr : r < 10) (h : u = nI r) : brP S r p = true := decide_eq_true ((mo_is g hr).mp h)
theorem brP_f {D D' : Mem} {S : St} {p r : Nat} {u : Int32} (g : BR2 (bk S) (th_ (bk S)) (kd_ (bk S)) (fg_ (bk S)) (avN (bk S) r) p D u D') (hr : r < 10) (h : ¬ u = nI r) : brP S r p = false := decide_eq_false (fun q => h ((mo_is g hr).mpr q))
theorem sn_y {p : Nat → Bool} {n k : Nat} (h : fst_ p 0 n = some k) : fst_ p 0 (n + 1) = some k := by rw [fst_snoc, h]
theorem sn_h {p : Nat → Bool} {n : Nat} (h : fst_ p 0 n = none) (hp : p n = true) : fst_ p 0 (n + 1) = some n := by rw [fst_snoc, h]; show (if p (0 + n) = true then _ else _) = _; rw [Nat.zero_add, if_pos hp]
theorem sn_n {p : Nat → Bool} {n : Nat} (hp : p n = false) : fst_ p 0 (n + 1) = fst_ p 0 n := by
  rw [fst_snoc]
  cases h : fst_ p 0 n with
  | none => show (if p (0 + n) = true then _ else _) = _; rw [Nat.zero_add, if_neg (by rw [hp]; decide)]
  | some k => rfl
theorem av_lt {B : Bk} (hV : VB B) {r : Nat} (hr : r < cm_ B) (hm : mtB B r = false) : avN B r < 4 := by have := (avN_eq hV hr hm).2; omega
theorem dX8_brought_0 : decode cX8_brought 0 = .ok (.aload_n 0, 1) := by decide +kernel
theorem dX8_brought_1 : decode cX8_brought 1 = .ok (.iload_n 1, 1) := by decide +kernel
theorem dX8_brought_2 : decode cX8_brought 2 = .ok (.invokevirtual 254, 3) := by decide +kernel
theorem dX8_brought_5 : decode cX8_brought 5 = .ok (.ifCond .ne 7, 3) := by decide +kernel
theorem dX8_brought_8 : decode cX8_brought 8 = .ok (.iconst (-1), 1) := by decide +kernel
theorem dX8_brought_9 : decode cX8_brought 9 = .ok (.goto 31, 3) := by decide +kernel
theorem dX8_brought_12 : decode cX8_brought 12 = .ok (.aload_n 0, 1) := by decide +kernel
theorem dX8_brought_13 : decode cX8_brought 13 = .ok (.iload_n 1, 1) := by decide +kernel
theorem dX8_brought_14 : decode cX8_brought 14 = .ok (.invokevirtual 127, 3) := by decide +kernel
theorem dX8_brought_17 : decode cX8_brought 17 = .ok (.ifCond .eq 8, 3) := by decide +kernel
theorem dX8_brought_20 : decode cX8_brought 20 = .ok (.bipush (-3), 2) := by decide +kernel
theorem dX8_brought_22 : decode cX8_brought 22 = .ok (.goto 18, 3) := by decide +kernel
theorem dX8_brought_25 : decode cX8_brought 25 = .ok (.iload_n 2, 1) := by decide +kernel
theorem dX8_brought_26 : decode cX8_brought 26 = .ok (.iconst 0, 1) := by decide +kernel
theorem dX8_brought_27 : decode cX8_brought 27 = .ok (.iconst 1, 1) := by decide +kernel
theorem dX8_brought_28 : decode cX8_brought 28 = .ok (.invokestatic 115, 3) := by decide +kernel
theorem dX8_brought_31 : decode cX8_brought 31 = .ok (.ifCond .ne 8, 3) := by decide +kernel
theorem dX8_brought_34 : decode cX8_brought 34 = .ok (.bipush (-2), 2) := by decide +kernel
theorem dX8_brought_36 : decode cX8_brought 36 = .ok (.goto 4, 3) := by decide +kernel
theorem dX8_brought_39 : decode cX8_brought 39 = .ok (.iconst 0, 1) := by decide +kernel
theorem dX8_brought_40 : decode cX8_brought 40 = .ok (.istore_n 3, 1) := by decide +kernel
theorem dX8_brought_41 : decode cX8_brought 41 = .ok (.iload_n 3, 1) := by decide +kernel
theorem dX8_brought_42 : decode cX8_brought 42 = .ok (.ifCond .eq 9, 3) := by decide +kernel
theorem dX8_brought_45 : decode cX8_brought 45 = .ok (.aload_n 0, 1) := by decide +kernel
theorem dX8_brought_46 : decode cX8_brought 46 = .ok (.iload_n 3, 1) := by decide +kernel
theorem dX8_brought_47 : decode cX8_brought 47 = .ok (.invokevirtual 211, 3) := by decide +kernel
theorem dX8_brought_50 : decode cX8_brought 50 = .ok (.ireturn, 1) := by decide +kernel
theorem dX8_brought_51 : decode cX8_brought 51 = .ok (.iconst 0, 1) := by decide +kernel
theorem dX8_brought_52 : decode cX8_brought 52 = .ok (.istore 4, 2) := by decide +kernel
theorem dX8_brought_54 : decode cX8_brought 54 = .ok (.bipush (-9), 2) := by decide +kernel
theorem dX8_brought_56 : decode cX8_brought 56 = .ok (.istore 5, 2) := by decide +kernel
theorem dX8_brought_58 : decode cX8_brought 58 = .ok (.iconst 0, 1) := by decide +kernel
theorem dX8_brought_59 : decode cX8_brought 59 = .ok (.istore 6, 2) := by decide +kernel
theorem dX8_brought_61 : decode cX8_brought 61 = .ok (.iload 6, 2) := by decide +kernel
theorem dX8_brought_63 : decode cX8_brought 63 = .ok (.sipush 341, 3) := by decide +kernel
theorem dX8_brought_66 : decode cX8_brought 66 = .ok (.if_icmp .ge 44, 3) := by decide +kernel
theorem dX8_brought_69 : decode cX8_brought 69 = .ok (.aload_n 0, 1) := by decide +kernel
theorem dX8_brought_70 : decode cX8_brought 70 = .ok (.iload 6, 2) := by decide +kernel
theorem dX8_brought_72 : decode cX8_brought 72 = .ok (.aload_n 0, 1) := by decide +kernel
theorem dX8_brought_73 : decode cX8_brought 73 = .ok (.iload_n 1, 1) := by decide +kernel
theorem dX8_brought_74 : decode cX8_brought 74 = .ok (.invokevirtual 320, 3) := by decide +kernel
theorem dX8_brought_77 : decode cX8_brought 77 = .ok (.invokevirtual 314, 3) := by decide +kernel
theorem dX8_brought_80 : decode cX8_brought 80 = .ok (.iload_n 1, 1) := by decide +kernel
theorem dX8_brought_81 : decode cX8_brought 81 = .ok (.if_icmp .eq 6, 3) := by decide +kernel
theorem dX8_brought_84 : decode cX8_brought 84 = .ok (.goto 20, 3) := by decide +kernel
theorem dX8_brought_87 : decode cX8_brought 87 = .ok (.iinc 4 1, 3) := by decide +kernel
theorem dX8_brought_90 : decode cX8_brought 90 = .ok (.iload 5, 2) := by decide +kernel
theorem dX8_brought_92 : decode cX8_brought 92 = .ok (.ifCond .ge 8, 3) := by decide +kernel
theorem dX8_brought_95 : decode cX8_brought 95 = .ok (.iload 6, 2) := by decide +kernel
theorem dX8_brought_97 : decode cX8_brought 97 = .ok (.goto 5, 3) := by decide +kernel
theorem dX8_brought_100 : decode cX8_brought 100 = .ok (.iload 5, 2) := by decide +kernel
theorem dX8_brought_102 : decode cX8_brought 102 = .ok (.istore 5, 2) := by decide +kernel
theorem dX8_brought_104 : decode cX8_brought 104 = .ok (.iinc 6 1, 3) := by decide +kernel
theorem dX8_brought_107 : decode cX8_brought 107 = .ok (.goto (-46), 3) := by decide +kernel
theorem dX8_brought_110 : decode cX8_brought 110 = .ok (.iload_n 2, 1) := by decide +kernel
theorem dX8_brought_111 : decode cX8_brought 111 = .ok (.ifCond .ne 8, 3) := by decide +kernel
theorem dX8_brought_114 : decode cX8_brought 114 = .ok (.iload 4, 2) := by decide +kernel
theorem dX8_brought_116 : decode cX8_brought 116 = .ok (.goto 5, 3) := by decide +kernel
theorem dX8_brought_119 : decode cX8_brought 119 = .ok (.iload 5, 2) := by decide +kernel
theorem dX8_brought_121 : decode cX8_brought 121 = .ok (.ireturn, 1) := by decide +kernel
theorem lp_X8_brought {S : St} {D : Mem} {r : Nat} {y z : Int32} (hw : WF S) (hr : r < cm_ (bk S)) (hm : mtB (bk S) r = false) : ∀ (m : Nat) (i : Nat) (D1 : Mem), i + m = 341 → INV2 D1 S → Fr inR D D1 → X 6 138 j_X8_brought 61 [some (.ref 104), some (.int (nI r)), some (.int y), some (.int z), some (.int (nI (cn (brP S r) i))), some (.int (opI (fst_ (brP S r) 0 i))), some (.int (nI i))] [] (138, P0, D1) (fun x σ => ∃ (u : Int32) (D' : Mem), x = [.int u] ∧ σ = wd D' ∧ CK2 D (if y = 0 then nI (cn (brP S r) 341) else opI (fst_ (brP S r) 0 341), S) u D') := by
  intro m
  induction m with
  | zero =>
    intro i D1 hi h hf
    have hr10 : r < 10 := Nat.lt_of_lt_of_le hr hw.1.2.1
    refine X_iload (nx := 63) dX8_brought_61 rfl rfl ?_
    refine X_sipush (v := nI 341) (nx := 66) dX8_brought_63 rfl rfl ?_
    refine X_icmp_ge (tgt := 110) (nx := 69) dX8_brought_66 rfl rfl (fun h66 => ?_) (fun h66 => ?_)
    · skip
      refine X_iload_n (nx := 111) dX8_brought_110 rfl rfl rfl ?_
      refine X_if_ne (tgt := 119) (nx := 114) dX8_brought_111 rfl rfl (fun h111 => ?_) (fun h111 => ?_)
      · skip
        refine X_iload (nx := 121) dX8_brought_119 rfl rfl ?_
        exact Z_reti dX8_brought_121 (Or.inl rfl) (by obtain rfl : i = 341 := (by omega); first | (rw [if_pos h111]; exact ck2_s rfl h hf) | (rw [if_neg h111]; exact ck2_s rfl h hf))
      · skip
        refine X_iload (nx := 116) dX8_brought_114 rfl rfl ?_
        refine X_goto (tgt := 121) dX8_brought_116 rfl ?_
        exact Z_reti dX8_brought_121 (Or.inl rfl) (by obtain rfl : i = 341 := (by omega); first | (rw [if_pos h111]; exact ck2_s rfl h hf) | (rw [if_neg h111]; exact ck2_s rfl h hf))
    · exact absurd h66 (fun q => q (nI_le (by omega) (by omega)))
  | succ m ih =>
    intro i D1 hi h hf
    have hr10 : r < 10 := Nat.lt_of_lt_of_le hr hw.1.2.1
    refine X_iload (nx := 63) dX8_brought_61 rfl rfl ?_
    refine X_sipush (v := nI 341) (nx := 66) dX8_brought_63 rfl rfl ?_
    refine X_icmp_ge (tgt := 110) (nx := 69) dX8_brought_66 rfl rfl (fun h66 => ?_) (fun h66 => ?_)
    · exact absurd h66 (nI_ge (by omega) (by omega))
    · skip
      refine X_aload_n (nx := 70) dX8_brought_69 rfl rfl rfl ?_
      refine X_iload (nx := 72) dX8_brought_70 rfl rfl ?_
      refine X_aload_n (nx := 73) dX8_brought_72 rfl rfl rfl ?_
      refine X_iload_n (nx := 74) dX8_brought_73 rfl rfl rfl ?_
      refine Y_Vi1 (nx := 77) dX8_brought_74 rfl ml_RX8_320 kj_X8_askedFor kv_X8_askedFor (sp_X8_askedFor h.1 hw.1 rfl hr hm) (by first | assumption | rfl | decide | omega) (by first | assumption | rfl | decide | omega) (by decide) rfl (by first | decide | omega) (by exact Nat.le_of_ble_eq_true rfl) ?_
      refine Z_Vi2 (nx := 80) dX8_brought_77 rfl ml_RX8_314 kj_X8_matchOf kv_X8_matchOf (sp_X8_matchOf h.1 hw.1 hw.1.1 tle rfl (by omega) rfl (av_lt hw.1 hr hm)) (by first | assumption | rfl | decide | omega) (by first | assumption | rfl | decide | omega) (by decide) rfl (by first | decide | omega) (by exact Nat.le_of_ble_eq_true rfl) (fun u77 D77 g77 => ?_)
      refine X_iload_n (nx := 81) dX8_brought_80 rfl rfl rfl ?_
      refine X_icmp_eq (tgt := 87) (nx := 84) dX8_brought_81 rfl rfl (fun h81 => ?_) (fun h81 => ?_)
      · skip
        have hp := brP_t g77 hr10 h81
        have hc := cn_1 (p := brP S r) (n := i) hp
        refine X_iinc (nx := 90) dX8_brought_87 rfl (by decide) rfl hc.1 rfl (st_s (st_s (st_s (st_s (st_0))))) ?_
        refine X_iload (nx := 92) dX8_brought_90 rfl rfl ?_
        refine X_if_ge (tgt := 100) (nx := 95) dX8_brought_92 rfl rfl (fun h92 => ?_) (fun h92 => ?_)
        · skip
          obtain ⟨k, hk⟩ := opI_ge0 h92
          rw [hk, ← sn_y hk]
          refine X_iload (nx := 102) dX8_brought_100 rfl rfl ?_
          refine X_istore (i := 5) (nx := 104) dX8_brought_102 rfl (by decide) rfl (st_s (st_s (st_s (st_s (st_s (st_0)))))) ?_
          refine X_iinc (nx := 107) dX8_brought_104 rfl (by decide) rfl (by first | exact ii1 _ | rfl) rfl (st_s (st_s (st_s (st_s (st_s (st_s (st_0))))))) ?_
          refine X_goto (tgt := 61) dX8_brought_107 rfl ?_
          exact ih (i + 1) D77 (by omega) (br_inv h hw g77).1 (hf.tr (br_inv h hw g77).2)
        · skip
          have hk := opI_n0 h92 (fun k hk => by have := (fst_some hk).2.1; omega)
          refine X_iload (nx := 97) dX8_brought_95 rfl rfl ?_
          refine X_top (show _ = opI (fst_ (brP S r) 0 (i + 1)) from (by rw [sn_h hk hp]; rfl)) ?_
          refine X_goto (tgt := 102) dX8_brought_97 rfl ?_
          refine X_istore (i := 5) (nx := 104) dX8_brought_102 rfl (by decide) rfl (st_s (st_s (st_s (st_s (st_s (st_0)))))) ?_
          refine X_iinc (nx := 107) dX8_brought_104 rfl (by decide) rfl (by first | exact ii1 _ | rfl) rfl (st_s (st_s (st_s (st_s (st_s (st_s (st_0))))))) ?_
          refine X_goto (tgt := 61) dX8_brought_107 rfl ?_
          exact ih (i + 1) D77 (by omega) (br_inv h hw g77).1 (hf.tr (br_inv h hw g77).2)
      · skip
        have hp := brP_f g77 hr10 h81
        have hc := cn_0 (p := brP S r) (n := i) hp
        rw [hc.1, ← sn_n hp]
        refine X_goto (tgt := 104) dX8_brought_84 rfl ?_
        refine X_iinc (nx := 107) dX8_brought_104 rfl (by decide) rfl (by first | exact ii1 _ | rfl) rfl (st_s (st_s (st_s (st_s (st_s (st_s (st_0))))))) ?_
        refine X_goto (tgt := 61) dX8_brought_107 rfl ?_
        exact ih (i + 1) D77 (by omega) (br_inv h hw g77).1 (hf.tr (br_inv h hw g77).2)
theorem sp_X8_brought {x y : Int32} {S : St} {D : Mem} (h : INV2 D S) (hw : WF S) : Rix 6 j_X8_brought [.ref 104, .int x, .int y] D (fun u D' => CK2 D (m_brought S x y) u D') := by
  refine E.start 4 (ls := [some (.ref 104), some (.int x), some (.int y), none, none, none, none]) (by decide +kernel) (Nat.le_of_ble_eq_true rfl) rfl (Nat.le_refl _) (Nat.le_refl _) ?_
  have hcm := hw.1.2.1
  have hB2 := h.1.2.1
  refine X_aload_n (nx := 1) dX8_brought_0 rfl rfl rfl ?_
  refine X_iload_n (nx := 2) dX8_brought_1 rfl rfl rfl ?_
  refine Y_Vi1 (nx := 5) dX8_brought_2 rfl ml_RX8_254 kj_X8_isRoute kv_X8_isRoute (sp_X8_isRoute h.1 hw.1) (by first | assumption | rfl | decide | omega) (by first | assumption | rfl | decide | omega) (by decide) rfl (by first | decide | omega) (by exact Nat.le_of_ble_eq_true rfl) ?_
  refine X_top (show _ = b2i (isTh (bk S) x) from rfl) ?_
  refine X_if_ne (tgt := 12) (nx := 8) dX8_brought_5 rfl rfl (fun h5 => ?_) (fun h5 => ?_)
  · skip
    have c5 := b2i_t.mp h5
    obtain ⟨r, hr, rfl, tr⟩ := isTh_t hcm c5
    have k5 : (nI r).toNatClampNeg = r := nI_clamp (by omega)
    refine X_aload_n (nx := 13) dX8_brought_12 rfl rfl rfl ?_
    refine X_iload_n (nx := 14) dX8_brought_13 rfl rfl rfl ?_
    refine Y_Vi1 (nx := 17) dX8_brought_14 rfl ml_RX8_127 kj_X8_isMount kv_X8_isMount (sp_X8_isMount h.1 hw.1 rfl hr) (by first | assumption | rfl | decide | omega) (by first | assumption | rfl | decide | omega) (by decide) rfl (by first | decide | omega) (by exact Nat.le_of_ble_eq_true rfl) ?_
    refine X_if_eq (tgt := 25) (nx := 20) dX8_brought_17 rfl rfl (fun h17 => ?_) (fun h17 => ?_)
    · skip
      have n17 := nb h17
      refine X_iload_n (nx := 26) dX8_brought_25 rfl rfl rfl ?_
      refine X_iconst (v := 0) (nx := 27) dX8_brought_26 rfl rfl ?_
      refine X_iconst (v := 1) (nx := 28) dX8_brought_27 rfl rfl ?_
      refine Y_Si3 (nx := 31) dX8_brought_28 rfl ml_RX8_115 kj_X8_isIn ks_X8_isIn (sp_X8_isIn) (by first | decide | omega) (by exact Nat.le_of_ble_eq_true rfl) ?_
      refine X_top (congrArg b2i d01) ?_
      refine X_if_ne (tgt := 39) (nx := 34) dX8_brought_31 rfl rfl (fun h31 => ?_) (fun h31 => ?_)
      · skip
        have c31 := b2i_t.mp h31
        refine X_iconst (v := 0) (nx := 40) dX8_brought_39 rfl rfl ?_
        refine X_istore_n (i := 3) (nx := 41) dX8_brought_40 rfl rfl (by decide) rfl (st_s (st_s (st_s (st_0)))) ?_
        refine X_iload_n (nx := 42) dX8_brought_41 rfl rfl rfl ?_
        refine X_if_eq (tgt := 51) (nx := 45) dX8_brought_42 rfl rfl (fun h42 => ?_) (fun h42 => ?_)
        · skip
          refine X_iconst (v := nI 0) (nx := 52) dX8_brought_51 rfl rfl ?_
          refine X_istore (i := 4) (nx := 54) dX8_brought_52 rfl (by decide) rfl (st_s (st_s (st_s (st_s (st_0))))) ?_
          refine X_bipush (v := -9) (nx := 56) dX8_brought_54 rfl rfl ?_
          refine X_istore (i := 5) (nx := 58) dX8_brought_56 rfl (by decide) rfl (st_s (st_s (st_s (st_s (st_s (st_0)))))) ?_
          refine X_iconst (v := nI 0) (nx := 59) dX8_brought_58 rfl rfl ?_
          refine X_istore (i := 6) (nx := 61) dX8_brought_59 rfl (by decide) rfl (st_s (st_s (st_s (st_s (st_s (st_s (st_0))))))) ?_
          (unfold m_brought; rw [if_pos c5, k5, if_neg n17, if_pos c31]; exact lp_X8_brought hw hr (Bool.eq_false_iff.mpr n17) 341 0 D rfl h Fr.rf)
        · exact absurd h42 (by decide)
      · skip
        have n31 := nb h31
        refine X_bipush (v := -2) (nx := 36) dX8_brought_34 rfl rfl ?_
        refine X_goto (tgt := 40) dX8_brought_36 rfl ?_
        refine X_istore_n (i := 3) (nx := 41) dX8_brought_40 rfl rfl (by decide) rfl (st_s (st_s (st_s (st_0)))) ?_
        refine X_iload_n (nx := 42) dX8_brought_41 rfl rfl rfl ?_
        refine X_if_eq (tgt := 51) (nx := 45) dX8_brought_42 rfl rfl (fun h42 => ?_) (fun h42 => ?_)
        · exact absurd h42 (by decide)
        · skip
          refine X_aload_n (nx := 46) dX8_brought_45 rfl rfl rfl ?_
          refine X_iload_n (nx := 47) dX8_brought_46 rfl rfl rfl ?_
          refine Y_Vi1 (nx := 50) dX8_brought_47 rfl ml_RX8_211 kj_X8_no kv_X8_no (by first | exact sp_X8_no (k := 1) rfl (by omega) (by omega) | exact sp_X8_no (k := 2) rfl (by omega) (by omega) | exact sp_X8_no (k := 3) rfl (by omega) (by omega)) (by first | assumption | rfl | decide | omega) (by first | assumption | rfl | decide | omega) (by decide) rfl (by first | decide | omega) (by exact Nat.le_of_ble_eq_true rfl) ?_
          exact Z_reti dX8_brought_50 (Or.inl rfl) (by
            unfold m_brought
            first
            | (rw [if_neg n5]; exact ck2_no (k := 1) h Fr.rf (by omega) (by omega))
            | (rw [if_pos c5, k5, if_pos c17]; exact ck2_no (k := 3) h Fr.rf (by omega) (by omega))
            | (rw [if_pos c5, k5, if_neg n17, if_neg n31]; exact ck2_no (k := 2) h Fr.rf (by omega) (by omega)))
    · skip
      have c17 := b2i_t.mp h17
      refine X_bipush (v := -3) (nx := 22) dX8_brought_20 rfl rfl ?_
      refine X_goto (tgt := 40) dX8_brought_22 rfl ?_
      refine X_istore_n (i := 3) (nx := 41) dX8_brought_40 rfl rfl (by decide) rfl (st_s (st_s (st_s (st_0)))) ?_
      refine X_iload_n (nx := 42) dX8_brought_41 rfl rfl rfl ?_
      refine X_if_eq (tgt := 51) (nx := 45) dX8_brought_42 rfl rfl (fun h42 => ?_) (fun h42 => ?_)
      · exact absurd h42 (by decide)
      · skip
        refine X_aload_n (nx := 46) dX8_brought_45 rfl rfl rfl ?_
        refine X_iload_n (nx := 47) dX8_brought_46 rfl rfl rfl ?_
        refine Y_Vi1 (nx := 50) dX8_brought_47 rfl ml_RX8_211 kj_X8_no kv_X8_no (by first | exact sp_X8_no (k := 1) rfl (by omega) (by omega) | exact sp_X8_no (k := 2) rfl (by omega) (by omega) | exact sp_X8_no (k := 3) rfl (by omega) (by omega)) (by first | assumption | rfl | decide | omega) (by first | assumption | rfl | decide | omega) (by decide) rfl (by first | decide | omega) (by exact Nat.le_of_ble_eq_true rfl) ?_
        exact Z_reti dX8_brought_50 (Or.inl rfl) (by
          unfold m_brought
          first
          | (rw [if_neg n5]; exact ck2_no (k := 1) h Fr.rf (by omega) (by omega))
          | (rw [if_pos c5, k5, if_pos c17]; exact ck2_no (k := 3) h Fr.rf (by omega) (by omega))
          | (rw [if_pos c5, k5, if_neg n17, if_neg n31]; exact ck2_no (k := 2) h Fr.rf (by omega) (by omega)))
  · skip
    have n5 := nb h5
    refine X_iconst (v := -1) (nx := 9) dX8_brought_8 rfl rfl ?_
    refine X_goto (tgt := 40) dX8_brought_9 rfl ?_
    refine X_istore_n (i := 3) (nx := 41) dX8_brought_40 rfl rfl (by decide) rfl (st_s (st_s (st_s (st_0)))) ?_
    refine X_iload_n (nx := 42) dX8_brought_41 rfl rfl rfl ?_
    refine X_if_eq (tgt := 51) (nx := 45) dX8_brought_42 rfl rfl (fun h42 => ?_) (fun h42 => ?_)
    · exact absurd h42 (by decide)
    · skip
      refine X_aload_n (nx := 46) dX8_brought_45 rfl rfl rfl ?_
      refine X_iload_n (nx := 47) dX8_brought_46 rfl rfl rfl ?_
      refine Y_Vi1 (nx := 50) dX8_brought_47 rfl ml_RX8_211 kj_X8_no kv_X8_no (by first | exact sp_X8_no (k := 1) rfl (by omega) (by omega) | exact sp_X8_no (k := 2) rfl (by omega) (by omega) | exact sp_X8_no (k := 3) rfl (by omega) (by omega)) (by first | assumption | rfl | decide | omega) (by first | assumption | rfl | decide | omega) (by decide) rfl (by first | decide | omega) (by exact Nat.le_of_ble_eq_true rfl) ?_
      exact Z_reti dX8_brought_50 (Or.inl rfl) (by
        unfold m_brought
        first
        | (rw [if_neg n5]; exact ck2_no (k := 1) h Fr.rf (by omega) (by omega))
        | (rw [if_pos c5, k5, if_pos c17]; exact ck2_no (k := 3) h Fr.rf (by omega) (by omega))
        | (rw [if_pos c5, k5, if_neg n17, if_neg n31]; exact ck2_no (k := 2) h Fr.rf (by omega) (by omega)))
theorem dX8_isBrought_0 : decode cX8_isBrought 0 = .ok (.iconst 0, 1) := by decide +kernel
theorem dX8_isBrought_1 : decode cX8_isBrought 1 = .ok (.istore_n 2, 1) := by decide +kernel
theorem dX8_isBrought_2 : decode cX8_isBrought 2 = .ok (.iload_n 2, 1) := by decide +kernel
theorem dX8_isBrought_3 : decode cX8_isBrought 3 = .ok (.sipush 341, 3) := by decide +kernel
theorem dX8_isBrought_6 : decode cX8_isBrought 6 = .ok (.if_icmp .ge 25, 3) := by decide +kernel
theorem dX8_isBrought_9 : decode cX8_isBrought 9 = .ok (.aload_n 0, 1) := by decide +kernel
theorem dX8_isBrought_10 : decode cX8_isBrought 10 = .ok (.iload_n 2, 1) := by decide +kernel
theorem dX8_isBrought_11 : decode cX8_isBrought 11 = .ok (.aload_n 0, 1) := by decide +kernel
theorem dX8_isBrought_12 : decode cX8_isBrought 12 = .ok (.iload_n 1, 1) := by decide +kernel
theorem dX8_isBrought_13 : decode cX8_isBrought 13 = .ok (.invokevirtual 320, 3) := by decide +kernel
theorem dX8_isBrought_16 : decode cX8_isBrought 16 = .ok (.invokevirtual 314, 3) := by decide +kernel
theorem dX8_isBrought_19 : decode cX8_isBrought 19 = .ok (.iload_n 1, 1) := by decide +kernel
theorem dX8_isBrought_20 : decode cX8_isBrought 20 = .ok (.if_icmp .ne 5, 3) := by decide +kernel
theorem dX8_isBrought_23 : decode cX8_isBrought 23 = .ok (.iconst 1, 1) := by decide +kernel
theorem dX8_isBrought_24 : decode cX8_isBrought 24 = .ok (.ireturn, 1) := by decide +kernel
theorem dX8_isBrought_25 : decode cX8_isBrought 25 = .ok (.iinc 2 1, 3) := by decide +kernel
theorem dX8_isBrought_28 : decode cX8_isBrought 28 = .ok (.goto (-26), 3) := by decide +kernel
theorem dX8_isBrought_31 : decode cX8_isBrought 31 = .ok (.iconst 0, 1) := by decide +kernel
theorem dX8_isBrought_32 : decode cX8_isBrought 32 = .ok (.ireturn, 1) := by decide +kernel
theorem lp_X8_isBrought {S : St} {D : Mem} {r : Nat} (hw : WF S) (hr : r < cm_ (bk S)) (hm : mtB (bk S) r = false) : ∀ (m : Nat) (i : Nat) (D1 : Mem), i + m = 341 → INV2 D1 S → Fr inR D D1 → X 6 138 j_X8_isBrought 2 [some (.ref 104), some (.int (nI r)), some (.int (nI i))] [] (138, P0, D1) (fun x σ => ∃ (u : Int32) (D' : Mem), x = [.int u] ∧ σ = wd D' ∧ (u = b2i (fst_ (brP S r) i m).isSome ∧ INV2 D' S ∧ Fr inR D D')) := by
  intro m
  induction m with
  | zero =>
    intro i D1 hi h hf
    have hr10 : r < 10 := Nat.lt_of_lt_of_le hr hw.1.2.1
    refine X_iload_n (nx := 3) dX8_isBrought_2 rfl rfl rfl ?_
    refine X_sipush (v := nI 341) (nx := 6) dX8_isBrought_3 rfl rfl ?_
    refine X_icmp_ge (tgt := 31) (nx := 9) dX8_isBrought_6 rfl rfl (fun h6 => ?_) (fun h6 => ?_)
    · skip
      refine X_iconst (v := 0) (nx := 32) dX8_isBrought_31 rfl rfl ?_
      exact Z_reti dX8_isBrought_32 (Or.inr ⟨rfl, by first | exact Or.inl rfl | exact Or.inr rfl | exact b2i_01 _ | assumption⟩) ⟨rfl, h, hf⟩
    · exact absurd h6 (fun q => q (nI_le (by omega) (by omega)))
  | succ m ih =>
    intro i D1 hi h hf
    have hr10 : r < 10 := Nat.lt_of_lt_of_le hr hw.1.2.1
    refine X_iload_n (nx := 3) dX8_isBrought_2 rfl rfl rfl ?_
    refine X_sipush (v := nI 341) (nx := 6) dX8_isBrought_3 rfl rfl ?_
    refine X_icmp_ge (tgt := 31) (nx := 9) dX8_isBrought_6 rfl rfl (fun h6 => ?_) (fun h6 => ?_)
    · exact absurd h6 (nI_ge (by omega) (by omega))
    · skip
      refine X_aload_n (nx := 10) dX8_isBrought_9 rfl rfl rfl ?_
      refine X_iload_n (nx := 11) dX8_isBrought_10 rfl rfl rfl ?_
      refine X_aload_n (nx := 12) dX8_isBrought_11 rfl rfl rfl ?_
      refine X_iload_n (nx := 13) dX8_isBrought_12 rfl rfl rfl ?_
      refine Y_Vi1 (nx := 16) dX8_isBrought_13 rfl ml_RX8_320 kj_X8_askedFor kv_X8_askedFor (sp_X8_askedFor h.1 hw.1 rfl hr hm) (by first | assumption | rfl | decide | omega) (by first | assumption | rfl | decide | omega) (by decide) rfl (by first | decide | omega) (by exact Nat.le_of_ble_eq_true rfl) ?_
      refine Z_Vi2 (nx := 19) dX8_isBrought_16 rfl ml_RX8_314 kj_X8_matchOf kv_X8_matchOf (sp_X8_matchOf h.1 hw.1 hw.1.1 tle rfl (by omega) rfl (av_lt hw.1 hr hm)) (by first | assumption | rfl | decide | omega) (by first | assumption | rfl | decide | omega) (by decide) rfl (by first | decide | omega) (by exact Nat.le_of_ble_eq_true rfl) (fun u16 D16 g16 => ?_)
      refine X_iload_n (nx := 20) dX8_isBrought_19 rfl rfl rfl ?_
      refine X_icmp_ne (tgt := 25) (nx := 23) dX8_isBrought_20 rfl rfl (fun h20 => ?_) (fun h20 => ?_)
      · skip
        have hp := brP_f g16 hr10 h20
        rw [fst_step hp]
        refine X_iinc (nx := 28) dX8_isBrought_25 rfl (by decide) rfl (by first | exact ii1 _ | rfl) rfl (st_s (st_s (st_0))) ?_
        refine X_goto (tgt := 2) dX8_isBrought_28 rfl ?_
        exact ih (i + 1) D16 (by omega) (br_inv h hw g16).1 (hf.tr (br_inv h hw g16).2)
      · skip
        have hp := brP_t g16 hr10 h20
        rw [fst_hit hp]
        refine X_iconst (v := 1) (nx := 24) dX8_isBrought_23 rfl rfl ?_
        exact Z_reti dX8_isBrought_24 (Or.inr ⟨rfl, by first | exact Or.inl rfl | exact Or.inr rfl | exact b2i_01 _ | assumption⟩) ⟨rfl, (br_inv h hw g16).1, hf.tr (br_inv h hw g16).2⟩
theorem sp_X8_isBrought {S : St} {D : Mem} {r : Nat} {x : Int32} (hw : WF S) (h : INV2 D S) (hx : x = nI r) (hr : r < cm_ (bk S)) (hm : mtB (bk S) r = false) : Rix 6 j_X8_isBrought [.ref 104, .int x] D (fun u D' => u = b2i (fst_ (brP S r) 0 341).isSome ∧ INV2 D' S ∧ Fr inR D D') := by
  refine E.start 1 (ls := [some (.ref 104), some (.int x), none]) (by decide +kernel) (Nat.le_of_ble_eq_true rfl) rfl (Nat.le_refl _) (Nat.le_refl _) ?_
  subst hx
  refine X_iconst (v := nI 0) (nx := 1) dX8_isBrought_0 rfl rfl ?_
  refine X_istore_n (i := 2) (nx := 2) dX8_isBrought_1 rfl rfl (by decide) rfl (st_s (st_s (st_0))) ?_
  exact lp_X8_isBrought hw hr hm 341 0 D rfl h Fr.rf
theorem anyN_fst {p : Nat → Bool} : ∀ n, anyN p n = (fst_ p 0 n).isSome := by
  intro n
  induction n with
  | zero => rfl
  | succ n ih =>
    show (anyN p n || p n) = _
    rw [ih]
    cases h : fst_ p 0 n with
    | some k => rw [sn_y h]; rfl
    | none =>
      cases hp : p n with
      | true => rw [sn_h h hp]; rfl
      | false => rw [sn_n hp, h]; rfl
theorem anyN_congr {p q : Nat → Bool} : ∀ n, (∀ k, k < n → p k = q k) → anyN p n = anyN q n := by
  intro n
  induction n with
  | zero => intro _; rfl
  | succ n ih =>
    intro h
    show (anyN p n || p n) = (anyN q n || q n)
    rw [ih (fun k hk => h k (by omega)), h n (by omega)]
theorem anyN_f {n : Nat} : anyN (fun _ => false) n = false := by
  induction n with
  | zero => rfl
  | succ n ih => show (anyN (fun _ => false) n || false) = false; rw [ih]; rfl
/-- brought by no path by its own verb -/
def nvP (S : St) : Nat → Bool := fun r => th_ (bk S) r && (!mtB (bk S) r && !(fst_ (brP S r) 0 341).isSome)
theorem nv_any {S : St} {r : Nat} (hw : WF S) (hr : r < cm_ (bk S)) (hm : mtB (bk S) r = false) : nvD S 3 0 r = (fst_ (brP S r) 0 341).isSome := by
  obtain ⟨h1, h2⟩ := avN_eq hw.1 hr hm
  unfold nvD
  rw [← anyN_fst]
  show (anyN (fun v2 => anyN (fun p2 => nvE S v2 p2 r) 341) 3 || false) = _
  rw [Bool.or_false]
  have e : ∀ v2, v2 < 3 → anyN (fun p2 => nvE S v2 p2 r) 341 = (decide (v2 = avN (bk S) r) && anyN (brP S r) 341) := by
    intro v2 hv2
    by_cases q : v2 = avN (bk S) r
    · subst q
      rw [decide_eq_true rfl, Bool.true_and]
      exact anyN_congr 341 (fun k _ => decide_eq_decide.mpr ⟨fun w => w.1, fun w => ⟨w, h1⟩⟩)
    · rw [decide_eq_false q, Bool.false_and, ← anyN_f (n := 341)]
      exact anyN_congr 341 (fun k _ => decide_eq_false (fun w => q ((nI_eq (a := avN (bk S) r) (b := v2) (by omega) (by omega)).mp (h1.symm.trans w.2)).symm))
  rw [anyN_congr 3 e]
  generalize avN (bk S) r = a at h2
  generalize anyN (brP S r) 341 = b
  show ((false || (decide (0 = a) && b)) || (decide (1 = a) && b) || (decide (2 = a) && b)) = b
  match a, h2 with
  | 0, _ => cases b <;> rfl
  | 1, _ => cases b <;> rfl
  | 2, _ => cases b <;> rfl
theorem nvP_mkn {S : St} (hw : WF S) : mkn (nvP S) (cm_ (bk S)) = mkn (nvB S 3 0) 10 := by
  rw [mkn_cm hw.1.2.1]
  refine mkn_congr (fun r _ => ?_)
  unfold nvB nvP thN
  by_cases hr : r < cm_ (bk S)
  · rw [decide_eq_true hr, Bool.true_and, Bool.true_and]
    cases hm : mtB (bk S) r with
    | true => simp
    | false => rw [nv_any hw hr hm]; simp
  · rw [decide_eq_false hr]; simp
theorem dX8_never_0 : decode cX8_never 0 = .ok (.iconst 0, 1) := by decide +kernel
theorem dX8_never_1 : decode cX8_never 1 = .ok (.istore_n 1, 1) := by decide +kernel
theorem dX8_never_2 : decode cX8_never 2 = .ok (.iconst 0, 1) := by decide +kernel
theorem dX8_never_3 : decode cX8_never 3 = .ok (.istore_n 2, 1) := by decide +kernel
theorem dX8_never_4 : decode cX8_never 4 = .ok (.iload_n 2, 1) := by decide +kernel
theorem dX8_never_5 : decode cX8_never 5 = .ok (.aload_n 0, 1) := by decide +kernel
theorem dX8_never_6 : decode cX8_never 6 = .ok (.getfield 109, 3) := by decide +kernel
theorem dX8_never_9 : decode cX8_never 9 = .ok (.if_icmp .ge 45, 3) := by decide +kernel
theorem dX8_never_12 : decode cX8_never 12 = .ok (.iload_n 1, 1) := by decide +kernel
theorem dX8_never_13 : decode cX8_never 13 = .ok (.aload_n 0, 1) := by decide +kernel
theorem dX8_never_14 : decode cX8_never 14 = .ok (.getfield 19, 3) := by decide +kernel
theorem dX8_never_17 : decode cX8_never 17 = .ok (.iload_n 2, 1) := by decide +kernel
theorem dX8_never_18 : decode cX8_never 18 = .ok (.iaload, 1) := by decide +kernel
theorem dX8_never_19 : decode cX8_never 19 = .ok (.iconst 1, 1) := by decide +kernel
theorem dX8_never_20 : decode cX8_never 20 = .ok (.if_icmp .ne 25, 3) := by decide +kernel
theorem dX8_never_23 : decode cX8_never 23 = .ok (.aload_n 0, 1) := by decide +kernel
theorem dX8_never_24 : decode cX8_never 24 = .ok (.iload_n 2, 1) := by decide +kernel
theorem dX8_never_25 : decode cX8_never 25 = .ok (.invokevirtual 127, 3) := by decide +kernel
theorem dX8_never_28 : decode cX8_never 28 = .ok (.ifCond .ne 17, 3) := by decide +kernel
theorem dX8_never_31 : decode cX8_never 31 = .ok (.aload_n 0, 1) := by decide +kernel
theorem dX8_never_32 : decode cX8_never 32 = .ok (.iload_n 2, 1) := by decide +kernel
theorem dX8_never_33 : decode cX8_never 33 = .ok (.invokevirtual 323, 3) := by decide +kernel
theorem dX8_never_36 : decode cX8_never 36 = .ok (.ifCond .ne 9, 3) := by decide +kernel
theorem dX8_never_39 : decode cX8_never 39 = .ok (.iconst 1, 1) := by decide +kernel
theorem dX8_never_40 : decode cX8_never 40 = .ok (.iload_n 2, 1) := by decide +kernel
theorem dX8_never_41 : decode cX8_never 41 = .ok (.ishl, 1) := by decide +kernel
theorem dX8_never_42 : decode cX8_never 42 = .ok (.goto 4, 3) := by decide +kernel
theorem dX8_never_45 : decode cX8_never 45 = .ok (.iconst 0, 1) := by decide +kernel
theorem dX8_never_46 : decode cX8_never 46 = .ok (.ior, 1) := by decide +kernel
theorem dX8_never_47 : decode cX8_never 47 = .ok (.istore_n 1, 1) := by decide +kernel
theorem dX8_never_48 : decode cX8_never 48 = .ok (.iinc 2 1, 3) := by decide +kernel
theorem dX8_never_51 : decode cX8_never 51 = .ok (.goto (-47), 3) := by decide +kernel
theorem dX8_never_54 : decode cX8_never 54 = .ok (.iload_n 1, 1) := by decide +kernel
theorem dX8_never_55 : decode cX8_never 55 = .ok (.ireturn, 1) := by decide +kernel
theorem lp_X8_never {S : St} {D : Mem} (hw : WF S) : ∀ (m : Nat) (i : Nat) (D1 : Mem), i + m = cm_ (bk S) → INV2 D1 S → Fr inR D D1 → X 7 138 j_X8_never 4 [some (.ref 104), some (.int (nI (mkn (nvP S) i))), some (.int (nI i))] [] (138, P0, D1) (fun x σ => ∃ (u : Int32) (D' : Mem), x = [.int u] ∧ σ = wd D' ∧ CK2 D (nI (mkn (nvP S) (cm_ (bk S))), S) u D') := by
  intro m
  induction m with
  | zero =>
    intro i D1 hi h hf
    have hcm := hw.1.2.1
    refine X_iload_n (nx := 5) dX8_never_4 rfl rfl rfl ?_
    refine X_aload_n (nx := 6) dX8_never_5 rfl rfl rfl ?_
    refine M_getI (nx := 9) dX8_never_6 rfl fl_RX8_109 rfl (by first | assumption | rfl | decide | omega) (by first | assumption | rfl | decide | omega) ?_
    refine X_top (h.1.2.1) ?_
    refine X_icmp_ge (tgt := 54) (nx := 12) dX8_never_9 rfl rfl (fun h9 => ?_) (fun h9 => ?_)
    · skip
      refine X_iload_n (nx := 55) dX8_never_54 rfl rfl rfl ?_
      exact Z_reti dX8_never_55 (Or.inl rfl) (by obtain rfl : i = cm_ (bk S) := (by omega); exact ck2_s rfl h hf)
    · exact absurd h9 (fun q => q (nI_le (by omega) (by omega)))
  | succ m ih =>
    intro i D1 hi h hf
    have hcm := hw.1.2.1
    have hic : i < cm_ (bk S) := by omega
    refine X_iload_n (nx := 5) dX8_never_4 rfl rfl rfl ?_
    refine X_aload_n (nx := 6) dX8_never_5 rfl rfl rfl ?_
    refine M_getI (nx := 9) dX8_never_6 rfl fl_RX8_109 rfl (by first | assumption | rfl | decide | omega) (by first | assumption | rfl | decide | omega) ?_
    refine X_top (h.1.2.1) ?_
    refine X_icmp_ge (tgt := 54) (nx := 12) dX8_never_9 rfl rfl (fun h9 => ?_) (fun h9 => ?_)
    · exact absurd h9 (nI_ge (by omega) (by omega))
    · skip
      refine X_iload_n (nx := 13) dX8_never_12 rfl rfl rfl ?_
      refine X_aload_n (nx := 14) dX8_never_13 rfl rfl rfl ?_
      refine M_getP (nx := 17) dX8_never_14 rfl fl_RX8_19 rfl (by first | assumption | rfl | decide | omega) (by first | assumption | rfl | decide | omega) (by first | assumption | rfl | decide | omega) ?_
      refine X_iload_n (nx := 18) dX8_never_17 rfl rfl rfl ?_
      refine M_ld (a := 108) (L := 10) (nx := 19) dX8_never_18 rfl (by decide) (by decide) rfl (by decide) (by omega) ((h.1.2.2 i (by omega)).1) ?_
      refine X_iconst (v := 1) (nx := 20) dX8_never_19 rfl rfl ?_
      refine X_icmp_ne (tgt := 45) (nx := 23) dX8_never_20 rfl rfl (fun h20 => ?_) (fun h20 => ?_)
      · skip
        have hz : nvP S i = false := by unfold nvP; cases hT : th_ (bk S) i; rfl; exact absurd (b2i_1.mpr hT) h20
        refine X_iconst (v := 0) (nx := 46) dX8_never_45 rfl rfl ?_
        refine X_ior (nx := 47) dX8_never_46 rfl ?_
        refine X_top (show _ = nI (mkn (nvP S) (i + 1)) from (by first | exact ior_step hz (by omega) | exact or_f hz)) ?_
        refine X_istore_n (i := 1) (nx := 48) dX8_never_47 rfl rfl (by decide) rfl (st_s (st_0)) ?_
        refine X_iinc (nx := 51) dX8_never_48 rfl (by decide) rfl (by first | exact ii1 _ | rfl) rfl (st_s (st_s (st_0))) ?_
        refine X_goto (tgt := 4) dX8_never_51 rfl ?_
        first
          | exact ih (i + 1) D33 (by omega) g33.2.1 (hf.tr g33.2.2)
          | exact ih (i + 1) D1 (by omega) h hf
      · skip
        refine X_aload_n (nx := 24) dX8_never_23 rfl rfl rfl ?_
        refine X_iload_n (nx := 25) dX8_never_24 rfl rfl rfl ?_
        refine Y_Vi1 (nx := 28) dX8_never_25 rfl ml_RX8_127 kj_X8_isMount kv_X8_isMount (sp_X8_isMount h.1 hw.1 rfl hic) (by first | assumption | rfl | decide | omega) (by first | assumption | rfl | decide | omega) (by decide) rfl (by first | decide | omega) (by exact Nat.le_of_ble_eq_true rfl) ?_
        refine X_if_ne (tgt := 45) (nx := 31) dX8_never_28 rfl rfl (fun h28 => ?_) (fun h28 => ?_)
        · skip
          have hz : nvP S i = false := by unfold nvP; rw [b2i_t.mp h28]; simp
          refine X_iconst (v := 0) (nx := 46) dX8_never_45 rfl rfl ?_
          refine X_ior (nx := 47) dX8_never_46 rfl ?_
          refine X_top (show _ = nI (mkn (nvP S) (i + 1)) from (by first | exact ior_step hz (by omega) | exact or_f hz)) ?_
          refine X_istore_n (i := 1) (nx := 48) dX8_never_47 rfl rfl (by decide) rfl (st_s (st_0)) ?_
          refine X_iinc (nx := 51) dX8_never_48 rfl (by decide) rfl (by first | exact ii1 _ | rfl) rfl (st_s (st_s (st_0))) ?_
          refine X_goto (tgt := 4) dX8_never_51 rfl ?_
          first
            | exact ih (i + 1) D33 (by omega) g33.2.1 (hf.tr g33.2.2)
            | exact ih (i + 1) D1 (by omega) h hf
        · skip
          refine X_aload_n (nx := 32) dX8_never_31 rfl rfl rfl ?_
          refine X_iload_n (nx := 33) dX8_never_32 rfl rfl rfl ?_
          refine Z_Vi1 (nx := 36) dX8_never_33 rfl ml_RX8_323 kj_X8_isBrought kv_X8_isBrought (sp_X8_isBrought hw h rfl hic (b2i_f.mp h28)) (by first | assumption | rfl | decide | omega) (by first | assumption | rfl | decide | omega) (by decide) rfl (by first | decide | omega) (by exact Nat.le_of_ble_eq_true rfl) (fun u33 D33 g33 => ?_)
          refine X_top (g33.1) ?_
          refine X_if_ne (tgt := 45) (nx := 39) dX8_never_36 rfl rfl (fun h36 => ?_) (fun h36 => ?_)
          · skip
            have hz : nvP S i = false := by unfold nvP; rw [b2i_t.mp h36]; simp
            refine X_iconst (v := 0) (nx := 46) dX8_never_45 rfl rfl ?_
            refine X_ior (nx := 47) dX8_never_46 rfl ?_
            refine X_top (show _ = nI (mkn (nvP S) (i + 1)) from (by first | exact ior_step hz (by omega) | exact or_f hz)) ?_
            refine X_istore_n (i := 1) (nx := 48) dX8_never_47 rfl rfl (by decide) rfl (st_s (st_0)) ?_
            refine X_iinc (nx := 51) dX8_never_48 rfl (by decide) rfl (by first | exact ii1 _ | rfl) rfl (st_s (st_s (st_0))) ?_
            refine X_goto (tgt := 4) dX8_never_51 rfl ?_
            first
              | exact ih (i + 1) D33 (by omega) g33.2.1 (hf.tr g33.2.2)
              | exact ih (i + 1) D1 (by omega) h hf
          · skip
            have hz : nvP S i = true := by unfold nvP; rw [b2i_f.mp h36, b2i_f.mp h28, b2i_1.mp h20]; rfl
            refine X_iconst (v := 1) (nx := 40) dX8_never_39 rfl rfl ?_
            refine X_iload_n (nx := 41) dX8_never_40 rfl rfl rfl ?_
            refine X_ishl (nx := 42) dX8_never_41 rfl ?_
            refine X_goto (tgt := 46) dX8_never_42 rfl ?_
            refine X_ior (nx := 47) dX8_never_46 rfl ?_
            refine X_top (show _ = nI (mkn (nvP S) (i + 1)) from (by first | exact ior_step hz (by omega) | exact or_f hz)) ?_
            refine X_istore_n (i := 1) (nx := 48) dX8_never_47 rfl rfl (by decide) rfl (st_s (st_0)) ?_
            refine X_iinc (nx := 51) dX8_never_48 rfl (by decide) rfl (by first | exact ii1 _ | rfl) rfl (st_s (st_s (st_0))) ?_
            refine X_goto (tgt := 4) dX8_never_51 rfl ?_
            first
              | exact ih (i + 1) D33 (by omega) g33.2.1 (hf.tr g33.2.2)
              | exact ih (i + 1) D1 (by omega) h hf
theorem sp_X8_never {S : St} {D : Mem} (h : INV2 D S) (hw : WF S) : Rix 7 j_X8_never [.ref 104] D (fun u D' => CK2 D (m_never S) u D') := by
  refine E.start 2 (ls := [some (.ref 104), none, none]) (by decide +kernel) (Nat.le_of_ble_eq_true rfl) rfl (Nat.le_refl _) (Nat.le_refl _) ?_
  have hcm := hw.1.2.1
  have hB2 := h.1.2.1
  refine X_iconst (v := nI 0) (nx := 1) dX8_never_0 rfl rfl ?_
  refine X_istore_n (i := 1) (nx := 2) dX8_never_1 rfl rfl (by decide) rfl (st_s (st_0)) ?_
  refine X_iconst (v := nI 0) (nx := 3) dX8_never_2 rfl rfl ?_
  refine X_istore_n (i := 2) (nx := 4) dX8_never_3 rfl rfl (by decide) rfl (st_s (st_s (st_0))) ?_
  (unfold m_never; rw [← nvP_mkn hw]; exact lp_X8_never hw (cm_ (bk S)) 0 D (Nat.zero_add _) h Fr.rf)
