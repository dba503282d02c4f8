/-! THE REFERENCE: rows, kinds, without -/
/-- the book's own set -/
theorem wT_S (S : St) : wT (bk S) (th_ (bk S)) = wS S := rfl
theorem rwn2_n {D D' : Mem} {B : Bk} {T : Nat → Bool} {K F : Nat → Nat} {v p : Nat} {u : Int32} (g : BR2 B T K F v p D u D') (hu : ¬ 0 ≤ u) : (99 : Int32) = nI (rwN (mtE B (wT B T) v p K F)) := by rw [br_no g (Int32.not_le.mp hu)]; rfl
theorem rwn2_s {D D' : Mem} {B : Bk} {T : Nat → Bool} {K F : Nat → Nat} {v p : Nat} {u : Int32} (g : BR2 B T K F v p D u D') (hu : 0 ≤ u) : u = nI (rwN (mtE B (wT B T) v p K F)) := by
  obtain ⟨e, he, h2, _⟩ := br_yes g (Int32.not_lt.mpr hu)
  rw [he, h2]; rfl
theorem rwN2_lt {D D' : Mem} {B : Bk} {T : Nat → Bool} {K F : Nat → Nat} {v p : Nat} {u : Int32} (g : BR2 B T K F v p D u D') : rwN (mtE B (wT B T) v p K F) < 1000 := by
  cases hm : mtE B (wT B T) v p K F with
  | none => show 99 < 1000; omega
  | some k => have := g.lt hm; show k < 1000; omega
theorem dX8_firstWrong_0 : decode cX8_firstWrong 0 = .ok (.iconst 0, 1) := by decide +kernel
theorem dX8_firstWrong_1 : decode cX8_firstWrong 1 = .ok (.istore_n 2, 1) := by decide +kernel
theorem dX8_firstWrong_2 : decode cX8_firstWrong 2 = .ok (.iload_n 2, 1) := by decide +kernel
theorem dX8_firstWrong_3 : decode cX8_firstWrong 3 = .ok (.aload_n 0, 1) := by decide +kernel
theorem dX8_firstWrong_4 : decode cX8_firstWrong 4 = .ok (.getfield 377, 3) := by decide +kernel
theorem dX8_firstWrong_7 : decode cX8_firstWrong 7 = .ok (.if_icmp .ge 37, 3) := by decide +kernel
theorem dX8_firstWrong_10 : decode cX8_firstWrong 10 = .ok (.aload_n 0, 1) := by decide +kernel
theorem dX8_firstWrong_11 : decode cX8_firstWrong 11 = .ok (.iload_n 2, 1) := by decide +kernel
theorem dX8_firstWrong_12 : decode cX8_firstWrong 12 = .ok (.iload_n 1, 1) := by decide +kernel
theorem dX8_firstWrong_13 : decode cX8_firstWrong 13 = .ok (.invokevirtual 314, 3) := by decide +kernel
theorem dX8_firstWrong_16 : decode cX8_firstWrong 16 = .ok (.istore_n 3, 1) := by decide +kernel
theorem dX8_firstWrong_17 : decode cX8_firstWrong 17 = .ok (.iload_n 3, 1) := by decide +kernel
theorem dX8_firstWrong_18 : decode cX8_firstWrong 18 = .ok (.ifCond .ge 8, 3) := by decide +kernel
theorem dX8_firstWrong_21 : decode cX8_firstWrong 21 = .ok (.bipush 99, 2) := by decide +kernel
theorem dX8_firstWrong_23 : decode cX8_firstWrong 23 = .ok (.goto 4, 3) := by decide +kernel
theorem dX8_firstWrong_26 : decode cX8_firstWrong 26 = .ok (.iload_n 3, 1) := by decide +kernel
theorem dX8_firstWrong_27 : decode cX8_firstWrong 27 = .ok (.aload_n 0, 1) := by decide +kernel
theorem dX8_firstWrong_28 : decode cX8_firstWrong 28 = .ok (.getfield 106, 3) := by decide +kernel
theorem dX8_firstWrong_31 : decode cX8_firstWrong 31 = .ok (.iload_n 2, 1) := by decide +kernel
theorem dX8_firstWrong_32 : decode cX8_firstWrong 32 = .ok (.iaload, 1) := by decide +kernel
theorem dX8_firstWrong_33 : decode cX8_firstWrong 33 = .ok (.if_icmp .eq 5, 3) := by decide +kernel
theorem dX8_firstWrong_36 : decode cX8_firstWrong 36 = .ok (.iload_n 2, 1) := by decide +kernel
theorem dX8_firstWrong_37 : decode cX8_firstWrong 37 = .ok (.ireturn, 1) := by decide +kernel
theorem dX8_firstWrong_38 : decode cX8_firstWrong 38 = .ok (.iinc 2 1, 3) := by decide +kernel
theorem dX8_firstWrong_41 : decode cX8_firstWrong 41 = .ok (.goto (-39), 3) := by decide +kernel
theorem dX8_firstWrong_44 : decode cX8_firstWrong 44 = .ok (.bipush (-9), 2) := by decide +kernel
theorem dX8_firstWrong_46 : decode cX8_firstWrong 46 = .ok (.ireturn, 1) := by decide +kernel
theorem lp_X8_firstWrong {S : St} {K F : Nat → Nat} {v : Nat} {D : Mem} (hw : WF S) (hK : ∀ i, i < 3 → K i ≤ 5 ∧ F i ≤ 9) (hv : v < 4) : ∀ (m : Nat) (i : Nat) (D1 : Mem) (y : Option Value), i + m = (rw_ S).length → INVT D1 S (th_ (bk S)) K F → Fq SCR D D1 → X 6 138 j_X8_firstWrong 2 [some (.ref 104), some (.int (nI v)), some (.int (nI i)), y] [] (138, P0, D1) (fun x σ => ∃ (u : Int32) (D' : Mem), x = [.int u] ∧ σ = wd D' ∧ (u = opI (fst_ (wrg S K F v) i m) ∧ INVT D' S (th_ (bk S)) K F ∧ Fq SCR D D')) := by
  intro m
  induction m with
  | zero =>
    intro i D1 y hi h hf
    have h30 := hw.2.2.2.2.1
    refine X_iload_n (nx := 3) dX8_firstWrong_2 rfl rfl rfl ?_
    refine X_aload_n (nx := 4) dX8_firstWrong_3 rfl rfl rfl ?_
    refine M_getI (nx := 7) dX8_firstWrong_4 rfl fl_RX8_377 rfl (by first | assumption | rfl | decide | omega) (by first | assumption | rfl | decide | omega) ?_
    refine X_top (h.2.2.2.2.1) ?_
    refine X_icmp_ge (tgt := 44) (nx := 10) dX8_firstWrong_7 rfl rfl (fun h7 => ?_) (fun h7 => ?_)
    · skip
      refine X_bipush (v := -9) (nx := 46) dX8_firstWrong_44 rfl rfl ?_
      exact Z_reti dX8_firstWrong_46 (Or.inl rfl) ⟨rfl, h, hf⟩
    · exact absurd h7 (fun q => q (nI_le (by omega) (by omega)))
  | succ m ih =>
    intro i D1 y hi h hf
    have h30 := hw.2.2.2.2.1
    refine X_iload_n (nx := 3) dX8_firstWrong_2 rfl rfl rfl ?_
    refine X_aload_n (nx := 4) dX8_firstWrong_3 rfl rfl rfl ?_
    refine M_getI (nx := 7) dX8_firstWrong_4 rfl fl_RX8_377 rfl (by first | assumption | rfl | decide | omega) (by first | assumption | rfl | decide | omega) ?_
    refine X_top (h.2.2.2.2.1) ?_
    refine X_icmp_ge (tgt := 44) (nx := 10) dX8_firstWrong_7 rfl rfl (fun h7 => ?_) (fun h7 => ?_)
    · exact absurd h7 (nI_ge (by omega) (by omega))
    · skip
      refine X_aload_n (nx := 11) dX8_firstWrong_10 rfl rfl rfl ?_
      refine X_iload_n (nx := 12) dX8_firstWrong_11 rfl rfl rfl ?_
      refine X_iload_n (nx := 13) dX8_firstWrong_12 rfl rfl rfl ?_
      refine Z_Vi2 (nx := 16) dX8_firstWrong_13 rfl ml_RX8_314 kj_X8_matchOf kv_X8_matchOf (sp_X8_matchOf h.1 hw.1 hK tle rfl (by omega) rfl hv) (by first | assumption | rfl | decide | omega) (by first | assumption | rfl | decide | omega) (by decide) rfl (by first | decide | omega) (by exact Nat.le_of_ble_eq_true rfl) (fun u13 D13 g13 => ?_)
      have hi1 := br_inv h hw g13
      have hq1 := hf.tr (g13.2.1.mono (fun _ _ q => q.scr))
      have hr1 := rwN2_lt g13
      refine X_istore_n (i := 3) (nx := 17) dX8_firstWrong_16 rfl rfl (by decide) rfl (st_s (st_s (st_s (st_0)))) ?_
      refine X_iload_n (nx := 18) dX8_firstWrong_17 rfl rfl rfl ?_
      refine X_if_ge (tgt := 26) (nx := 21) dX8_firstWrong_18 rfl rfl (fun h18 => ?_) (fun h18 => ?_)
      · skip
        refine X_iload_n (nx := 27) dX8_firstWrong_26 rfl rfl rfl ?_
        refine X_aload_n (nx := 28) dX8_firstWrong_27 rfl rfl rfl ?_
        refine M_getP (nx := 31) dX8_firstWrong_28 rfl fl_RX8_106 rfl (by first | assumption | rfl | decide | omega) (by first | assumption | rfl | decide | omega) (by first | assumption | rfl | decide | omega) ?_
        refine X_iload_n (nx := 32) dX8_firstWrong_31 rfl rfl rfl ?_
        refine M_ld (a := 137) (L := 30) (nx := 33) dX8_firstWrong_32 rfl (by decide) (by decide) rfl (by decide) (by omega) (hi1.1.2.2.2.2.2.1 i (by omega)) ?_
        refine X_icmp_eq (tgt := 38) (nx := 36) dX8_firstWrong_33 rfl rfl (fun h33 => ?_) (fun h33 => ?_)
        · skip
          have hrl := getD_lt hw.2.2.2.2.2.2 (k := i) (by omega)
          have hz : wrg S K F v i = false := decide_eq_false (Decidable.not_not.mpr (show (rw_ S).getD i 0 = rwN (mtE (bk S) (wT (bk S) (th_ (bk S))) v i K F) from by first | exact ((nI_eq (by omega) (by omega)).mp ((rwn2_n g13 h18).symm.trans h33)).symm | exact ((nI_eq (by omega) (by omega)).mp ((rwn2_s g13 h18).symm.trans h33)).symm))
          rw [fst_step hz]
          refine X_iinc (nx := 41) dX8_firstWrong_38 rfl (by decide) rfl (by first | exact ii1 _ | rfl) rfl (st_s (st_s (st_0))) ?_
          refine X_goto (tgt := 2) dX8_firstWrong_41 rfl ?_
          exact ih (i + 1) D13 _ (by omega) hi1.1 hq1
        · skip
          have hz : wrg S K F v i = true := decide_eq_true (show (rw_ S).getD i 0 ≠ rwN (mtE (bk S) (wT (bk S) (th_ (bk S))) v i K F) from fun q => by first | exact h33 ((rwn2_n g13 h18).trans (congrArg nI q.symm)) | exact h33 ((rwn2_s g13 h18).trans (congrArg nI q.symm)))
          rw [fst_hit hz]
          refine X_iload_n (nx := 37) dX8_firstWrong_36 rfl rfl rfl ?_
          exact Z_reti dX8_firstWrong_37 (Or.inl rfl) ⟨rfl, hi1.1, hq1⟩
      · skip
        refine X_bipush (v := 99) (nx := 23) dX8_firstWrong_21 rfl rfl ?_
        refine X_goto (tgt := 27) dX8_firstWrong_23 rfl ?_
        refine X_aload_n (nx := 28) dX8_firstWrong_27 rfl rfl rfl ?_
        refine M_getP (nx := 31) dX8_firstWrong_28 rfl fl_RX8_106 rfl (by first | assumption | rfl | decide | omega) (by first | assumption | rfl | decide | omega) (by first | assumption | rfl | decide | omega) ?_
        refine X_iload_n (nx := 32) dX8_firstWrong_31 rfl rfl rfl ?_
        refine M_ld (a := 137) (L := 30) (nx := 33) dX8_firstWrong_32 rfl (by decide) (by decide) rfl (by decide) (by omega) (hi1.1.2.2.2.2.2.1 i (by omega)) ?_
        refine X_icmp_eq (tgt := 38) (nx := 36) dX8_firstWrong_33 rfl rfl (fun h33 => ?_) (fun h33 => ?_)
        · skip
          have hrl := getD_lt hw.2.2.2.2.2.2 (k := i) (by omega)
          have hz : wrg S K F v i = false := decide_eq_false (Decidable.not_not.mpr (show (rw_ S).getD i 0 = rwN (mtE (bk S) (wT (bk S) (th_ (bk S))) v i K F) from by first | exact ((nI_eq (by omega) (by omega)).mp ((rwn2_n g13 h18).symm.trans h33)).symm | exact ((nI_eq (by omega) (by omega)).mp ((rwn2_s g13 h18).symm.trans h33)).symm))
          rw [fst_step hz]
          refine X_iinc (nx := 41) dX8_firstWrong_38 rfl (by decide) rfl (by first | exact ii1 _ | rfl) rfl (st_s (st_s (st_0))) ?_
          refine X_goto (tgt := 2) dX8_firstWrong_41 rfl ?_
          exact ih (i + 1) D13 _ (by omega) hi1.1 hq1
        · skip
          have hz : wrg S K F v i = true := decide_eq_true (show (rw_ S).getD i 0 ≠ rwN (mtE (bk S) (wT (bk S) (th_ (bk S))) v i K F) from fun q => by first | exact h33 ((rwn2_n g13 h18).trans (congrArg nI q.symm)) | exact h33 ((rwn2_s g13 h18).trans (congrArg nI q.symm)))
          rw [fst_hit hz]
          refine X_iload_n (nx := 37) dX8_firstWrong_36 rfl rfl rfl ?_
          exact Z_reti dX8_firstWrong_37 (Or.inl rfl) ⟨rfl, hi1.1, hq1⟩
theorem sp_X8_firstWrong {y : Int32} {S : St} {K F : Nat → Nat} {v : Nat} {D : Mem} (hw : WF S) (hK : ∀ i, i < 3 → K i ≤ 5 ∧ F i ≤ 9) (hv : v < 4) (h : INVT D S (th_ (bk S)) K F) (hy : y = nI v) : Rix 6 j_X8_firstWrong [.ref 104, .int y] D (fun u D' => u = opI (fns S K F v) ∧ INVT D' S (th_ (bk S)) K F ∧ Fq SCR D D') := by
  refine E.start 2 (ls := [some (.ref 104), some (.int y), none, none]) (by decide +kernel) (Nat.le_of_ble_eq_true rfl) rfl (Nat.le_refl _) (Nat.le_refl _) ?_
  subst hy
  refine X_iconst (v := nI 0) (nx := 1) dX8_firstWrong_0 rfl rfl ?_
  refine X_istore_n (i := 2) (nx := 2) dX8_firstWrong_1 rfl rfl (by decide) rfl (st_s (st_s (st_0))) ?_
  exact lp_X8_firstWrong hw hK hv (rw_ S).length 0 D none (Nat.zero_add _) h Fq.rf
theorem dX8_judge_0 : decode cX8_judge 0 = .ok (.iload_n 1, 1) := by decide +kernel
theorem dX8_judge_1 : decode cX8_judge 1 = .ok (.invokestatic 243, 3) := by decide +kernel
theorem dX8_judge_4 : decode cX8_judge 4 = .ok (.ifCond .ne 10, 3) := by decide +kernel
theorem dX8_judge_7 : decode cX8_judge 7 = .ok (.aload_n 0, 1) := by decide +kernel
theorem dX8_judge_8 : decode cX8_judge 8 = .ok (.bipush (-2), 2) := by decide +kernel
theorem dX8_judge_10 : decode cX8_judge 10 = .ok (.invokevirtual 211, 3) := by decide +kernel
theorem dX8_judge_13 : decode cX8_judge 13 = .ok (.ireturn, 1) := by decide +kernel
theorem dX8_judge_14 : decode cX8_judge 14 = .ok (.aload_n 0, 1) := by decide +kernel
theorem dX8_judge_15 : decode cX8_judge 15 = .ok (.iload_n 1, 1) := by decide +kernel
theorem dX8_judge_16 : decode cX8_judge 16 = .ok (.invokevirtual 380, 3) := by decide +kernel
theorem dX8_judge_19 : decode cX8_judge 19 = .ok (.istore_n 2, 1) := by decide +kernel
theorem dX8_judge_20 : decode cX8_judge 20 = .ok (.aload_n 0, 1) := by decide +kernel
theorem dX8_judge_21 : decode cX8_judge 21 = .ok (.iconst 0, 1) := by decide +kernel
theorem dX8_judge_22 : decode cX8_judge 22 = .ok (.putfield 377, 3) := by decide +kernel
theorem dX8_judge_25 : decode cX8_judge 25 = .ok (.iload_n 2, 1) := by decide +kernel
theorem dX8_judge_26 : decode cX8_judge 26 = .ok (.ireturn, 1) := by decide +kernel
theorem sp_X8_judge {y : Int32} {S : St} {D : Mem} (h : INV2 D S) (hw : WF S) : Rix 7 j_X8_judge [.ref 104, .int y] D (fun u D' => CK2 D (m_judge S y) u D') := by
  refine E.start 1 (ls := [some (.ref 104), some (.int y), none]) (by decide +kernel) (Nat.le_of_ble_eq_true rfl) rfl (Nat.le_refl _) (Nat.le_refl _) ?_
  have hcm := hw.1.2.1
  have hB2 := h.1.2.1
  refine X_iload_n (nx := 1) dX8_judge_0 rfl rfl rfl ?_
  refine Y_Si1 (nx := 4) dX8_judge_1 rfl ml_RX8_243 kj_X8_isVerb ks_X8_isVerb (sp_X8_isVerb) (by first | decide | omega) (by exact Nat.le_of_ble_eq_true rfl) ?_
  refine X_if_ne (tgt := 14) (nx := 7) dX8_judge_4 rfl rfl (fun h4 => ?_) (fun h4 => ?_)
  · skip
    have c4 := b2i_t.mp h4
    obtain ⟨v, hv, rfl⟩ := ex_nI (N := 4) (n := 4) rfl (by decide) (of_decide_eq_true c4)
    have k4 : (nI v).toNatClampNeg = v := nI_clamp (by omega)
    refine X_aload_n (nx := 15) dX8_judge_14 rfl rfl rfl ?_
    refine X_iload_n (nx := 16) dX8_judge_15 rfl rfl rfl ?_
    refine Z_Vi1 (nx := 19) dX8_judge_16 rfl ml_RX8_380 kj_X8_firstWrong kv_X8_firstWrong (sp_X8_firstWrong hw hw.1.1 hv h rfl) (by first | assumption | rfl | decide | omega) (by first | assumption | rfl | decide | omega) (by decide) rfl (by first | decide | omega) (by exact Nat.le_of_ble_eq_true rfl) (fun u16 D16 g16 => ?_)
    refine X_istore_n (i := 2) (nx := 20) dX8_judge_19 rfl rfl (by decide) rfl (st_s (st_s (st_0))) ?_
    refine X_aload_n (nx := 21) dX8_judge_20 rfl rfl rfl ?_
    refine X_iconst (v := 0) (nx := 22) dX8_judge_21 rfl rfl ?_
    refine M_putI (nx := 25) dX8_judge_22 rfl fl_RX8_377 rfl rfl (by first | assumption | rfl | decide | omega) (by first | assumption | rfl | decide | omega) ?_
    refine X_iload_n (nx := 26) dX8_judge_25 rfl rfl rfl ?_
    exact Z_reti dX8_judge_26 (Or.inl rfl) (by unfold m_judge; rw [if_pos c4, k4]; exact ⟨g16.1, (inv2_row0 g16.2.1).1, (SCR.fr g16.2.2).tr (inv2_row0 g16.2.1).2⟩)
  · skip
    have n4 := nb h4
    refine X_aload_n (nx := 8) dX8_judge_7 rfl rfl rfl ?_
    refine X_bipush (v := -2) (nx := 10) dX8_judge_8 rfl rfl ?_
    refine Y_Vi1 (nx := 13) dX8_judge_10 rfl ml_RX8_211 kj_X8_no kv_X8_no (sp_X8_no (k := 2) rfl (by omega) (by omega)) (by first | assumption | rfl | decide | omega) (by first | assumption | rfl | decide | omega) (by decide) rfl (by first | decide | omega) (by exact Nat.le_of_ble_eq_true rfl) ?_
    exact Z_reti dX8_judge_13 (Or.inl rfl) (by unfold m_judge; rw [if_neg n4]; exact ck2_no (k := 2) h Fr.rf (by omega) (by omega))
theorem tle_T {B : Bk} {T : Nat → Bool} {r : Nat} (h : TLE B T) : TLE B (fun i => if i = r then false else T i) := fun i hi q => by
  by_cases e : i = r
  · simp only [if_pos e] at q; cases q
  · simp only [if_neg e] at q; exact h i hi q
theorem wT_wo {B : Bk} {r : Nat} : wT B (fun i => if i = r then false else th_ B i) = mkn (fun i => thN B i && !decide (i = r)) 10 := by
  refine mkn_congr (fun k _ => ?_)
  show (decide (k < cm_ B) && (if k = r then false else th_ B k)) = (decide (k < cm_ B) && th_ B k && !decide (k = r))
  by_cases e : k = r
  · rw [if_pos e, decide_eq_true e]; simp
  · rw [if_neg e, decide_eq_false e]; simp
theorem inv_back {D : Mem} {S : St} {K F : Nat → Nat} {r : Nat} (hth : th_ (bk S) r = true) (h : INVT D S (fun i => if i = r then false else th_ (bk S) i) K F) : INVT (up2 D 108 r 1) S (th_ (bk S)) K F ∧ Fr inR D (up2 D 108 r 1) := by
  have h2 := inv_T (r := r) (b := true) h
  have e : (fun i => if i = r then true else (fun i => if i = r then false else th_ (bk S) i) i) = th_ (bk S) := by
    funext i
    by_cases q : i = r
    · subst q; rw [if_pos rfl, hth]
    · rw [if_neg q]; exact if_neg q
  rw [e] at h2
  exact h2
theorem dX8_without_0 : decode cX8_without 0 = .ok (.aload_n 0, 1) := by decide +kernel
theorem dX8_without_1 : decode cX8_without 1 = .ok (.iload_n 1, 1) := by decide +kernel
theorem dX8_without_2 : decode cX8_without 2 = .ok (.invokevirtual 254, 3) := by decide +kernel
theorem dX8_without_5 : decode cX8_without 5 = .ok (.ifCond .ne 7, 3) := by decide +kernel
theorem dX8_without_8 : decode cX8_without 8 = .ok (.iconst (-1), 1) := by decide +kernel
theorem dX8_without_9 : decode cX8_without 9 = .ok (.goto 9, 3) := by decide +kernel
theorem dX8_without_12 : decode cX8_without 12 = .ok (.aload_n 0, 1) := by decide +kernel
theorem dX8_without_13 : decode cX8_without 13 = .ok (.iload_n 2, 1) := by decide +kernel
theorem dX8_without_14 : decode cX8_without 14 = .ok (.iload_n 3, 1) := by decide +kernel
theorem dX8_without_15 : decode cX8_without 15 = .ok (.invokevirtual 311, 3) := by decide +kernel
theorem dX8_without_18 : decode cX8_without 18 = .ok (.istore 4, 2) := by decide +kernel
theorem dX8_without_20 : decode cX8_without 20 = .ok (.iload 4, 2) := by decide +kernel
theorem dX8_without_22 : decode cX8_without 22 = .ok (.ifCond .eq 10, 3) := by decide +kernel
theorem dX8_without_25 : decode cX8_without 25 = .ok (.aload_n 0, 1) := by decide +kernel
theorem dX8_without_26 : decode cX8_without 26 = .ok (.iload 4, 2) := by decide +kernel
theorem dX8_without_28 : decode cX8_without 28 = .ok (.invokevirtual 211, 3) := by decide +kernel
theorem dX8_without_31 : decode cX8_without 31 = .ok (.ireturn, 1) := by decide +kernel
theorem dX8_without_32 : decode cX8_without 32 = .ok (.aload_n 0, 1) := by decide +kernel
theorem dX8_without_33 : decode cX8_without 33 = .ok (.getfield 19, 3) := by decide +kernel
theorem dX8_without_36 : decode cX8_without 36 = .ok (.iload_n 1, 1) := by decide +kernel
theorem dX8_without_37 : decode cX8_without 37 = .ok (.iconst 0, 1) := by decide +kernel
theorem dX8_without_38 : decode cX8_without 38 = .ok (.iastore, 1) := by decide +kernel
theorem dX8_without_39 : decode cX8_without 39 = .ok (.aload_n 0, 1) := by decide +kernel
theorem dX8_without_40 : decode cX8_without 40 = .ok (.iload_n 2, 1) := by decide +kernel
theorem dX8_without_41 : decode cX8_without 41 = .ok (.iload_n 3, 1) := by decide +kernel
theorem dX8_without_42 : decode cX8_without 42 = .ok (.invokevirtual 314, 3) := by decide +kernel
theorem dX8_without_45 : decode cX8_without 45 = .ok (.istore 5, 2) := by decide +kernel
theorem dX8_without_47 : decode cX8_without 47 = .ok (.aload_n 0, 1) := by decide +kernel
theorem dX8_without_48 : decode cX8_without 48 = .ok (.getfield 19, 3) := by decide +kernel
theorem dX8_without_51 : decode cX8_without 51 = .ok (.iload_n 1, 1) := by decide +kernel
theorem dX8_without_52 : decode cX8_without 52 = .ok (.iconst 1, 1) := by decide +kernel
theorem dX8_without_53 : decode cX8_without 53 = .ok (.iastore, 1) := by decide +kernel
theorem dX8_without_54 : decode cX8_without 54 = .ok (.iload 5, 2) := by decide +kernel
theorem dX8_without_56 : decode cX8_without 56 = .ok (.ireturn, 1) := by decide +kernel
theorem sp_X8_without {x y z : Int32} {S : St} {D : Mem} (h : INV2 D S) (hw : WF S) : Rix 6 j_X8_without [.ref 104, .int x, .int y, .int z] D (fun u D' => CK2 D (m_without S x y z) u D') := by
  refine E.start 2 (ls := [some (.ref 104), some (.int x), some (.int y), some (.int z), none, none]) (by decide +kernel) (Nat.le_of_ble_eq_true rfl) rfl (Nat.le_refl _) (Nat.le_refl _) ?_
  have hcm := hw.1.2.1
  have hB2 := h.1.2.1
  refine X_aload_n (nx := 1) dX8_without_0 rfl rfl rfl ?_
  refine X_iload_n (nx := 2) dX8_without_1 rfl rfl rfl ?_
  refine Y_Vi1 (nx := 5) dX8_without_2 rfl ml_RX8_254 kj_X8_isRoute kv_X8_isRoute (sp_X8_isRoute h.1 hw.1) (by first | assumption | rfl | decide | omega) (by first | assumption | rfl | decide | omega) (by decide) rfl (by first | decide | omega) (by exact Nat.le_of_ble_eq_true rfl) ?_
  refine X_top (show _ = b2i (isTh (bk S) x) from rfl) ?_
  refine X_if_ne (tgt := 12) (nx := 8) dX8_without_5 rfl rfl (fun h5 => ?_) (fun h5 => ?_)
  · skip
    have c5 := b2i_t.mp h5
    obtain ⟨r, hr, rfl, tr⟩ := isTh_t hcm c5
    have k5 : (nI r).toNatClampNeg = r := nI_clamp (by omega)
    refine X_aload_n (nx := 13) dX8_without_12 rfl rfl rfl ?_
    refine X_iload_n (nx := 14) dX8_without_13 rfl rfl rfl ?_
    refine X_iload_n (nx := 15) dX8_without_14 rfl rfl rfl ?_
    refine Y_Vi2 (nx := 18) dX8_without_15 rfl ml_RX8_311 kj_X8_notAsked kv_X8_notAsked (sp_X8_notAsked) (by first | assumption | rfl | decide | omega) (by first | assumption | rfl | decide | omega) (by decide) rfl (by first | decide | omega) (by exact Nat.le_of_ble_eq_true rfl) ?_
    by_cases q1 : ¬ decide (0 ≤ y ∧ y < 341) = true
    · rw [if_pos q1]
      refine X_istore (i := 4) (nx := 20) dX8_without_18 rfl (by decide) rfl (st_s (st_s (st_s (st_s (st_0))))) ?_
      refine X_iload (nx := 22) dX8_without_20 rfl rfl ?_
      refine X_if_eq (tgt := 32) (nx := 25) dX8_without_22 rfl rfl (fun h22 => ?_) (fun h22 => ?_)
      · exact absurd h22 (by decide)
      · skip
        refine X_aload_n (nx := 26) dX8_without_25 rfl rfl rfl ?_
        refine X_iload (nx := 28) dX8_without_26 rfl rfl ?_
        refine Y_Vi1 (nx := 31) dX8_without_28 rfl ml_RX8_211 kj_X8_no kv_X8_no (by first | exact sp_X8_no (k := 1) rfl (by omega) (by omega) | exact sp_X8_no (k := 2) rfl (by omega) (by omega)) (by first | assumption | rfl | decide | omega) (by first | assumption | rfl | decide | omega) (by decide) rfl (by first | decide | omega) (by exact Nat.le_of_ble_eq_true rfl) ?_
        exact Z_reti dX8_without_31 (Or.inl rfl) (by
          unfold m_without
          first
          | (rw [if_pos c5, if_neg q1]; exact ck2_no (k := 1) h Fr.rf (by omega) (by omega))
          | (rw [if_pos c5, if_pos c1, if_neg q2]; exact ck2_no (k := 2) h Fr.rf (by omega) (by omega)))
    · rw [if_neg q1]
      have c1 := Decidable.not_not.mp q1
      by_cases q2 : ¬ decide (0 ≤ z ∧ z < 4) = true
      · rw [if_pos q2]
        refine X_istore (i := 4) (nx := 20) dX8_without_18 rfl (by decide) rfl (st_s (st_s (st_s (st_s (st_0))))) ?_
        refine X_iload (nx := 22) dX8_without_20 rfl rfl ?_
        refine X_if_eq (tgt := 32) (nx := 25) dX8_without_22 rfl rfl (fun h22 => ?_) (fun h22 => ?_)
        · exact absurd h22 (by decide)
        · skip
          refine X_aload_n (nx := 26) dX8_without_25 rfl rfl rfl ?_
          refine X_iload (nx := 28) dX8_without_26 rfl rfl ?_
          refine Y_Vi1 (nx := 31) dX8_without_28 rfl ml_RX8_211 kj_X8_no kv_X8_no (by first | exact sp_X8_no (k := 1) rfl (by omega) (by omega) | exact sp_X8_no (k := 2) rfl (by omega) (by omega)) (by first | assumption | rfl | decide | omega) (by first | assumption | rfl | decide | omega) (by decide) rfl (by first | decide | omega) (by exact Nat.le_of_ble_eq_true rfl) ?_
          exact Z_reti dX8_without_31 (Or.inl rfl) (by
            unfold m_without
            first
            | (rw [if_pos c5, if_neg q1]; exact ck2_no (k := 1) h Fr.rf (by omega) (by omega))
            | (rw [if_pos c5, if_pos c1, if_neg q2]; exact ck2_no (k := 2) h Fr.rf (by omega) (by omega)))
      · rw [if_neg q2]
        have c2 := Decidable.not_not.mp q2
        obtain ⟨p, hp, rfl⟩ := ex_nI (N := 341) (n := 341) rfl (by decide) (of_decide_eq_true c1)
        have kp : (nI p).toNatClampNeg = p := nI_clamp (by omega)
        obtain ⟨v, hv, rfl⟩ := ex_nI (N := 4) (n := 4) rfl (by decide) (of_decide_eq_true c2)
        have kv : (nI v).toNatClampNeg = v := nI_clamp (by omega)
        refine X_istore (i := 4) (nx := 20) dX8_without_18 rfl (by decide) rfl (st_s (st_s (st_s (st_s (st_0))))) ?_
        refine X_iload (nx := 22) dX8_without_20 rfl rfl ?_
        refine X_if_eq (tgt := 32) (nx := 25) dX8_without_22 rfl rfl (fun h22 => ?_) (fun h22 => ?_)
        · skip
          refine X_aload_n (nx := 33) dX8_without_32 rfl rfl rfl ?_
          refine M_getP (nx := 36) dX8_without_33 rfl fl_RX8_19 rfl (by first | assumption | rfl | decide | omega) (by first | assumption | rfl | decide | omega) (by first | assumption | rfl | decide | omega) ?_
          refine X_iload_n (nx := 37) dX8_without_36 rfl rfl rfl ?_
          refine X_iconst (v := 0) (nx := 38) dX8_without_37 rfl rfl ?_
          refine M_st (a := 108) (L := 10) (nx := 39) dX8_without_38 rfl (by decide) (by decide) rfl (by decide) (by omega) ?_
          have hT := inv_T (r := r) (b := false) h
          refine X_aload_n (nx := 40) dX8_without_39 rfl rfl rfl ?_
          refine X_iload_n (nx := 41) dX8_without_40 rfl rfl rfl ?_
          refine X_iload_n (nx := 42) dX8_without_41 rfl rfl rfl ?_
          refine Z_Vi2 (nx := 45) dX8_without_42 rfl ml_RX8_314 kj_X8_matchOf kv_X8_matchOf (sp_X8_matchOf hT.1.1 hw.1 hw.1.1 (tle_T tle) rfl hp rfl hv) (by first | assumption | rfl | decide | omega) (by first | assumption | rfl | decide | omega) (by decide) rfl (by first | decide | omega) (by exact Nat.le_of_ble_eq_true rfl) (fun u42 D42 g42 => ?_)
          have hi1 := br_inv hT.1 hw g42
          have hi2 := inv_back tr hi1.1
          refine X_istore (i := 5) (nx := 47) dX8_without_45 rfl (by decide) rfl (st_s (st_s (st_s (st_s (st_s (st_0)))))) ?_
          refine X_aload_n (nx := 48) dX8_without_47 rfl rfl rfl ?_
          refine M_getP (nx := 51) dX8_without_48 rfl fl_RX8_19 rfl (by first | assumption | rfl | decide | omega) (by first | assumption | rfl | decide | omega) (by first | assumption | rfl | decide | omega) ?_
          refine X_iload_n (nx := 52) dX8_without_51 rfl rfl rfl ?_
          refine X_iconst (v := 1) (nx := 53) dX8_without_52 rfl rfl ?_
          refine M_st (a := 108) (L := 10) (nx := 54) dX8_without_53 rfl (by decide) (by decide) rfl (by decide) (by omega) ?_
          refine X_iload (nx := 56) dX8_without_54 rfl rfl ?_
          exact Z_reti dX8_without_56 (Or.inl rfl) (by unfold m_without; rw [if_pos c5, if_pos c1, if_pos c2, k5, kp, kv]; have e := g42.2.2.1; rw [wT_wo] at e; exact ck2_s e hi2.1 ((hT.2.tr hi1.2).tr hi2.2))
        · exact absurd h22 (by decide)
  · skip
    have n5 := nb h5
    refine X_iconst (v := -1) (nx := 9) dX8_without_8 rfl rfl ?_
    refine X_goto (tgt := 18) dX8_without_9 rfl ?_
    refine X_istore (i := 4) (nx := 20) dX8_without_18 rfl (by decide) rfl (st_s (st_s (st_s (st_s (st_0))))) ?_
    refine X_iload (nx := 22) dX8_without_20 rfl rfl ?_
    refine X_if_eq (tgt := 32) (nx := 25) dX8_without_22 rfl rfl (fun h22 => ?_) (fun h22 => ?_)
    · exact absurd h22 (by decide)
    · skip
      refine X_aload_n (nx := 26) dX8_without_25 rfl rfl rfl ?_
      refine X_iload (nx := 28) dX8_without_26 rfl rfl ?_
      refine Y_Vi1 (nx := 31) dX8_without_28 rfl ml_RX8_211 kj_X8_no kv_X8_no (by first | exact sp_X8_no (k := 1) rfl (by omega) (by omega) | exact sp_X8_no (k := 2) rfl (by omega) (by omega)) (by first | assumption | rfl | decide | omega) (by first | assumption | rfl | decide | omega) (by decide) rfl (by first | decide | omega) (by exact Nat.le_of_ble_eq_true rfl) ?_
      exact Z_reti dX8_without_31 (Or.inl rfl) (by unfold m_without; rw [if_neg n5]; exact ck2_no (k := 1) h Fr.rf (by omega) (by omega))
