/-! THE REFERENCE: build, back -/
theorem fos_s : ∀ i, i < 4 → fos i + 4 ^ i = fos (i + 1) := by decide
theorem pcd_le {L : List Nat} (h : ∀ x ∈ L, x < 4) : ∀ n, pcd L n < 4 ^ n := by
  intro n
  induction n with
  | zero => exact (by decide : 0 < 1)
  | succ n ih =>
    have : L.getD n 0 < 4 := by
      by_cases hn : n < L.length
      · exact h _ (getD_in hn)
      · rw [List.getD_eq_getElem?_getD, List.getElem?_eq_none (by omega)]; decide
    show pcd L n * 4 + L.getD n 0 < 4 ^ (n + 1)
    rw [Nat.pow_succ]; omega
theorem pnum_lt2 {L : List Nat} (h : ∀ x ∈ L, x < 4) (hl : L.length ≤ 4) : pnum L < 341 := by
  have h1 := pcd_le h L.length
  have h2 : ∀ n, n ≤ 4 → fos n + 4 ^ n ≤ 341 := by decide
  have := h2 _ hl
  unfold pnum; omega
theorem dX8_numberOf_0 : decode cX8_numberOf 0 = .ok (.iconst 0, 1) := by decide +kernel
theorem dX8_numberOf_1 : decode cX8_numberOf 1 = .ok (.istore_n 3, 1) := by decide +kernel
theorem dX8_numberOf_2 : decode cX8_numberOf 2 = .ok (.iconst 1, 1) := by decide +kernel
theorem dX8_numberOf_3 : decode cX8_numberOf 3 = .ok (.istore 4, 2) := by decide +kernel
theorem dX8_numberOf_5 : decode cX8_numberOf 5 = .ok (.iconst 0, 1) := by decide +kernel
theorem dX8_numberOf_6 : decode cX8_numberOf 6 = .ok (.istore 5, 2) := by decide +kernel
theorem dX8_numberOf_8 : decode cX8_numberOf 8 = .ok (.iconst 0, 1) := by decide +kernel
theorem dX8_numberOf_9 : decode cX8_numberOf 9 = .ok (.istore 6, 2) := by decide +kernel
theorem dX8_numberOf_11 : decode cX8_numberOf 11 = .ok (.iload 6, 2) := by decide +kernel
theorem dX8_numberOf_13 : decode cX8_numberOf 13 = .ok (.iload_n 2, 1) := by decide +kernel
theorem dX8_numberOf_14 : decode cX8_numberOf 14 = .ok (.if_icmp .ge 31, 3) := by decide +kernel
theorem dX8_numberOf_17 : decode cX8_numberOf 17 = .ok (.iload_n 3, 1) := by decide +kernel
theorem dX8_numberOf_18 : decode cX8_numberOf 18 = .ok (.iload 4, 2) := by decide +kernel
theorem dX8_numberOf_20 : decode cX8_numberOf 20 = .ok (.iadd, 1) := by decide +kernel
theorem dX8_numberOf_21 : decode cX8_numberOf 21 = .ok (.istore_n 3, 1) := by decide +kernel
theorem dX8_numberOf_22 : decode cX8_numberOf 22 = .ok (.iload 4, 2) := by decide +kernel
theorem dX8_numberOf_24 : decode cX8_numberOf 24 = .ok (.iconst 4, 1) := by decide +kernel
theorem dX8_numberOf_25 : decode cX8_numberOf 25 = .ok (.imul, 1) := by decide +kernel
theorem dX8_numberOf_26 : decode cX8_numberOf 26 = .ok (.istore 4, 2) := by decide +kernel
theorem dX8_numberOf_28 : decode cX8_numberOf 28 = .ok (.iconst 4, 1) := by decide +kernel
theorem dX8_numberOf_29 : decode cX8_numberOf 29 = .ok (.iload 5, 2) := by decide +kernel
theorem dX8_numberOf_31 : decode cX8_numberOf 31 = .ok (.imul, 1) := by decide +kernel
theorem dX8_numberOf_32 : decode cX8_numberOf 32 = .ok (.aload_n 1, 1) := by decide +kernel
theorem dX8_numberOf_33 : decode cX8_numberOf 33 = .ok (.iload 6, 2) := by decide +kernel
theorem dX8_numberOf_35 : decode cX8_numberOf 35 = .ok (.iaload, 1) := by decide +kernel
theorem dX8_numberOf_36 : decode cX8_numberOf 36 = .ok (.iadd, 1) := by decide +kernel
theorem dX8_numberOf_37 : decode cX8_numberOf 37 = .ok (.istore 5, 2) := by decide +kernel
theorem dX8_numberOf_39 : decode cX8_numberOf 39 = .ok (.iinc 6 1, 3) := by decide +kernel
theorem dX8_numberOf_42 : decode cX8_numberOf 42 = .ok (.goto (-31), 3) := by decide +kernel
theorem dX8_numberOf_45 : decode cX8_numberOf 45 = .ok (.iload_n 3, 1) := by decide +kernel
theorem dX8_numberOf_46 : decode cX8_numberOf 46 = .ok (.iload 5, 2) := by decide +kernel
theorem dX8_numberOf_48 : decode cX8_numberOf 48 = .ok (.iadd, 1) := by decide +kernel
theorem dX8_numberOf_49 : decode cX8_numberOf 49 = .ok (.ireturn, 1) := by decide +kernel
theorem lp_X8_numberOf {M : List Nat} {D : Mem} (hM : ∀ k, k < M.length → D 134 k = nI (M.getD k 0)) (hl : M.length ≤ 4) : ∀ (m : Nat) (i : Nat), i + m = M.length → X 1 138 j_X8_numberOf 11 [some (.ref 104), some (.ref 134), some (.int (nI M.length)), some (.int (nI (fos i))), some (.int (nI (4 ^ i))), some (.int (nI (pcd M i))), some (.int (nI i))] [] (138, P0, D) (fun x σ => x = [.int (nI (pnum M))] ∧ σ = wd D) := by
  intro m
  induction m with
  | zero =>
    intro i hi
    refine X_iload (nx := 13) dX8_numberOf_11 rfl rfl ?_
    refine X_iload_n (nx := 14) dX8_numberOf_13 rfl rfl rfl ?_
    refine X_icmp_ge (tgt := 45) (nx := 17) dX8_numberOf_14 rfl rfl (fun h14 => ?_) (fun h14 => ?_)
    · skip
      refine X_iload_n (nx := 46) dX8_numberOf_45 rfl rfl rfl ?_
      refine X_iload (nx := 48) dX8_numberOf_46 rfl rfl ?_
      refine X_iadd (nx := 49) dX8_numberOf_48 rfl ?_
      refine X_top (nI_add _ _) ?_
      exact Y_reti dX8_numberOf_49 (Or.inl rfl) (by obtain rfl : i = M.length := (by omega); rfl) rfl
    · exact absurd h14 (fun q => q (nI_le (by omega) (by omega)))
  | succ m ih =>
    intro i hi
    refine X_iload (nx := 13) dX8_numberOf_11 rfl rfl ?_
    refine X_iload_n (nx := 14) dX8_numberOf_13 rfl rfl rfl ?_
    refine X_icmp_ge (tgt := 45) (nx := 17) dX8_numberOf_14 rfl rfl (fun h14 => ?_) (fun h14 => ?_)
    · exact absurd h14 (nI_ge (by omega) (by omega))
    · skip
      refine X_iload_n (nx := 18) dX8_numberOf_17 rfl rfl rfl ?_
      refine X_iload (nx := 20) dX8_numberOf_18 rfl rfl ?_
      refine X_iadd (nx := 21) dX8_numberOf_20 rfl ?_
      refine X_top (show _ = nI (fos (i + 1)) from (nI_add _ _).trans (congrArg nI (fos_s i (by omega)))) ?_
      refine X_istore_n (i := 3) (nx := 22) dX8_numberOf_21 rfl rfl (by decide) rfl (st_s (st_s (st_s (st_0)))) ?_
      refine X_iload (nx := 24) dX8_numberOf_22 rfl rfl ?_
      refine X_iconst (v := nI 4) (nx := 25) dX8_numberOf_24 rfl rfl ?_
      refine X_imul (nx := 26) dX8_numberOf_25 rfl ?_
      refine X_top (show _ = nI (4 ^ (i + 1)) from (by rw [mul_nI, Nat.pow_succ])) ?_
      refine X_istore (i := 4) (nx := 28) dX8_numberOf_26 rfl (by decide) rfl (st_s (st_s (st_s (st_s (st_0))))) ?_
      refine X_iconst (v := nI 4) (nx := 29) dX8_numberOf_28 rfl rfl ?_
      refine X_iload (nx := 31) dX8_numberOf_29 rfl rfl ?_
      refine X_imul (nx := 32) dX8_numberOf_31 rfl ?_
      refine X_top (mul_nI) ?_
      refine X_aload_n (nx := 33) dX8_numberOf_32 rfl rfl rfl ?_
      refine X_iload (nx := 35) dX8_numberOf_33 rfl rfl ?_
      refine M_ld (a := 134) (L := 16) (nx := 36) dX8_numberOf_35 rfl (by decide) (by decide) rfl (by decide) (by omega) (hM i (by omega)) ?_
      refine X_iadd (nx := 37) dX8_numberOf_36 rfl ?_
      refine X_top (show _ = nI (pcd M (i + 1)) from (nI_add _ _).trans (congrArg nI (by show _ = pcd M i * 4 + M.getD i 0; omega))) ?_
      refine X_istore (i := 5) (nx := 39) dX8_numberOf_37 rfl (by decide) rfl (st_s (st_s (st_s (st_s (st_s (st_0)))))) ?_
      refine X_iinc (nx := 42) dX8_numberOf_39 rfl (by decide) rfl (by first | exact ii1 _ | rfl) rfl (st_s (st_s (st_s (st_s (st_s (st_s (st_0))))))) ?_
      refine X_goto (tgt := 11) dX8_numberOf_42 rfl ?_
      exact ih (i + 1) (by omega)
theorem sp_X8_numberOf {M : List Nat} {x : Int32} {D : Mem} (hM : ∀ k, k < M.length → D 134 k = nI (M.getD k 0)) (hl : M.length ≤ 4) (hx : x = nI M.length) : Ei 1 j_X8_numberOf [.ref 104, .ref 134, .int x] D (nI (pnum M)) (D) := by
  refine E.start 4 (ls := [some (.ref 104), some (.ref 134), some (.int x), none, none, none, none]) (by decide +kernel) (Nat.le_of_ble_eq_true rfl) rfl (Nat.le_refl _) (Nat.le_refl _) ?_
  subst hx
  refine X_iconst (v := nI 0) (nx := 1) dX8_numberOf_0 rfl rfl ?_
  refine X_istore_n (i := 3) (nx := 2) dX8_numberOf_1 rfl rfl (by decide) rfl (st_s (st_s (st_s (st_0)))) ?_
  refine X_iconst (v := nI 1) (nx := 3) dX8_numberOf_2 rfl rfl ?_
  refine X_istore (i := 4) (nx := 5) dX8_numberOf_3 rfl (by decide) rfl (st_s (st_s (st_s (st_s (st_0))))) ?_
  refine X_iconst (v := nI 0) (nx := 6) dX8_numberOf_5 rfl rfl ?_
  refine X_istore (i := 5) (nx := 8) dX8_numberOf_6 rfl (by decide) rfl (st_s (st_s (st_s (st_s (st_s (st_0)))))) ?_
  refine X_iconst (v := nI 0) (nx := 9) dX8_numberOf_8 rfl rfl ?_
  refine X_istore (i := 6) (nx := 11) dX8_numberOf_9 rfl (by decide) rfl (st_s (st_s (st_s (st_s (st_s (st_s (st_0))))))) ?_
  exact lp_X8_numberOf hM hl M.length 0 (Nat.zero_add _)
def PBD (b i : Nat) : Prop := SBD b i ∨ b = 135
theorem PBD.scr {b i : Nat} (h : PBD b i) : SCR b i := by unfold PBD SBD at h; unfold SCR; omega
theorem fin_y {t : Bool × List Nat} (h1 : t.1 = true) (h2 : t.2.length ≤ 4) : fin4 t = some t.2 := if_pos ⟨h1, h2⟩
theorem fin_n {t : Bool × List Nat} (h : ¬ (t.1 = true ∧ t.2.length ≤ 4)) : fin4 t = none := if_neg h
def poD (D : Mem) : Mem := up2 (up2 D 104 47 1) 104 46 0
theorem poD_fq {D : Mem} : Fq SBD D (poD D) := (Fq.up (by unfold SBD; omega)).tr (Fq.up (by unfold SBD; omega))
theorem poD_47 {D : Mem} : poD D 104 47 = 1 := (up2_other (by omega)).trans up2_same
theorem poD_46 {D : Mem} : poD D 104 46 = 0 := up2_same
theorem dX8_pathOf_0 : decode cX8_pathOf 0 = .ok (.aload_n 0, 1) := by decide +kernel
theorem dX8_pathOf_1 : decode cX8_pathOf 1 = .ok (.invokevirtual 350, 3) := by decide +kernel
theorem dX8_pathOf_4 : decode cX8_pathOf 4 = .ok (.aload_n 0, 1) := by decide +kernel
theorem dX8_pathOf_5 : decode cX8_pathOf 5 = .ok (.iconst 1, 1) := by decide +kernel
theorem dX8_pathOf_6 : decode cX8_pathOf 6 = .ok (.putfield 341, 3) := by decide +kernel
theorem dX8_pathOf_9 : decode cX8_pathOf 9 = .ok (.aload_n 0, 1) := by decide +kernel
theorem dX8_pathOf_10 : decode cX8_pathOf 10 = .ok (.iconst 0, 1) := by decide +kernel
theorem dX8_pathOf_11 : decode cX8_pathOf 11 = .ok (.putfield 344, 3) := by decide +kernel
theorem dX8_pathOf_14 : decode cX8_pathOf 14 = .ok (.aload_n 0, 1) := by decide +kernel
theorem dX8_pathOf_15 : decode cX8_pathOf 15 = .ok (.aload_n 0, 1) := by decide +kernel
theorem dX8_pathOf_16 : decode cX8_pathOf 16 = .ok (.getfield 22, 3) := by decide +kernel
theorem dX8_pathOf_19 : decode cX8_pathOf 19 = .ok (.iload_n 1, 1) := by decide +kernel
theorem dX8_pathOf_20 : decode cX8_pathOf 20 = .ok (.iaload, 1) := by decide +kernel
theorem dX8_pathOf_21 : decode cX8_pathOf 21 = .ok (.invokevirtual 353, 3) := by decide +kernel
theorem dX8_pathOf_24 : decode cX8_pathOf 24 = .ok (.aload_n 0, 1) := by decide +kernel
theorem dX8_pathOf_25 : decode cX8_pathOf 25 = .ok (.iload_n 1, 1) := by decide +kernel
theorem dX8_pathOf_26 : decode cX8_pathOf 26 = .ok (.invokevirtual 347, 3) := by decide +kernel
theorem dX8_pathOf_29 : decode cX8_pathOf 29 = .ok (.aload_n 0, 1) := by decide +kernel
theorem dX8_pathOf_30 : decode cX8_pathOf 30 = .ok (.getfield 341, 3) := by decide +kernel
theorem dX8_pathOf_33 : decode cX8_pathOf 33 = .ok (.ifCond .eq 26, 3) := by decide +kernel
theorem dX8_pathOf_36 : decode cX8_pathOf 36 = .ok (.aload_n 0, 1) := by decide +kernel
theorem dX8_pathOf_37 : decode cX8_pathOf 37 = .ok (.getfield 344, 3) := by decide +kernel
theorem dX8_pathOf_40 : decode cX8_pathOf 40 = .ok (.iconst 4, 1) := by decide +kernel
theorem dX8_pathOf_41 : decode cX8_pathOf 41 = .ok (.if_icmp .gt 18, 3) := by decide +kernel
theorem dX8_pathOf_44 : decode cX8_pathOf 44 = .ok (.aload_n 0, 1) := by decide +kernel
theorem dX8_pathOf_45 : decode cX8_pathOf 45 = .ok (.aload_n 0, 1) := by decide +kernel
theorem dX8_pathOf_46 : decode cX8_pathOf 46 = .ok (.getfield 97, 3) := by decide +kernel
theorem dX8_pathOf_49 : decode cX8_pathOf 49 = .ok (.aload_n 0, 1) := by decide +kernel
theorem dX8_pathOf_50 : decode cX8_pathOf 50 = .ok (.getfield 344, 3) := by decide +kernel
theorem dX8_pathOf_53 : decode cX8_pathOf 53 = .ok (.invokevirtual 356, 3) := by decide +kernel
theorem dX8_pathOf_56 : decode cX8_pathOf 56 = .ok (.goto 5, 3) := by decide +kernel
theorem dX8_pathOf_59 : decode cX8_pathOf 59 = .ok (.bipush (-9), 2) := by decide +kernel
theorem dX8_pathOf_61 : decode cX8_pathOf 61 = .ok (.ireturn, 1) := by decide +kernel
theorem sp_X8_pathOf {r : Nat} {x : Int32} {g : Nat → Nat} {B : Bk} {K F : Nat → Nat} {D : Mem} (h : RB D B (th_ B) K F) (hV : VB B) (hg : GV2 D g) (hx : x = nI r) (hr : r < cm_ B) : Rix 4 j_X8_pathOf [.ref 104, .int x] D (fun u D' => u = opI ((pathB B g r).map pnum) ∧ (∀ M, pathB B g r = some M → pnum M < 341) ∧ Fq PBD D D') := by
  refine E.start 0 (ls := [some (.ref 104), some (.int x)]) (by decide +kernel) (Nat.le_of_ble_eq_true rfl) rfl (Nat.le_refl _) (Nat.le_refl _) ?_
  subst hx
  have hro := (hV.2.2 r hr).1
  have hcm := hV.2.1
  rw [← ptS_eq hV hr]
  refine X_aload_n (nx := 1) dX8_pathOf_0 rfl rfl rfl ?_
  refine Z_Vv0 (nx := 4) dX8_pathOf_1 rfl ml_RX8_350 kj_X8_findWays kv_X8_findWays (sp_X8_findWays h hV) (by first | assumption | rfl | decide | omega) (by first | assumption | rfl | decide | omega) (by decide) rfl (by first | decide | omega) (by exact Nat.le_of_ble_eq_true rfl) (fun D1 g1 => ?_)
  refine X_aload_n (nx := 5) dX8_pathOf_4 rfl rfl rfl ?_
  refine X_iconst (v := 1) (nx := 6) dX8_pathOf_5 rfl rfl ?_
  refine M_putZ (nx := 9) dX8_pathOf_6 rfl fl_RX8_341 rfl rfl (Or.inr rfl) (by first | assumption | rfl | decide | omega) (by first | assumption | rfl | decide | omega) ?_
  refine X_aload_n (nx := 10) dX8_pathOf_9 rfl rfl rfl ?_
  refine X_iconst (v := 0) (nx := 11) dX8_pathOf_10 rfl rfl ?_
  refine M_putI (nx := 14) dX8_pathOf_11 rfl fl_RX8_344 rfl rfl (by first | assumption | rfl | decide | omega) (by first | assumption | rfl | decide | omega) ?_
  show X 4 138 j_X8_pathOf 14 _ [] (138, P0, poD D1) _
  have hq9 : Fq PBD D (poD D1) := (g1.1.mono (fun b i q => Or.inr q)).tr (poD_fq.mono (fun b i q => Or.inl q))
  have hB9 : RB (poD D1) B (th_ B) K F := h.fq (hq9.mono (fun _ _ q => q.scr))
  have hg9 : GV2 (poD D1) g := hg.fq (hq9.row (fun i => by unfold PBD SBD; omega))
  have hw9 : WYS B (poD D1) 3 := g1.2.fq (poD_fq.row (fun i => by unfold SBD; omega))
  refine X_aload_n (nx := 15) dX8_pathOf_14 rfl rfl rfl ?_
  refine X_aload_n (nx := 16) dX8_pathOf_15 rfl rfl rfl ?_
  refine M_getP (nx := 19) dX8_pathOf_16 rfl fl_RX8_22 rfl (by first | assumption | rfl | decide | omega) (by first | assumption | rfl | decide | omega) (by first | assumption | rfl | decide | omega) ?_
  refine X_iload_n (nx := 20) dX8_pathOf_19 rfl rfl rfl ?_
  refine M_ld (a := 109) (L := 10) (nx := 21) dX8_pathOf_20 rfl (by decide) (by decide) rfl (by decide) (by omega) ((hB9.2.2 r hr).2.1) ?_
  refine Z_Vv1 (nx := 24) dX8_pathOf_21 rfl ml_RX8_353 kj_X8_buildsWay kv_X8_buildsWay (sp_X8_buildsWay hB9 hV hg9 hw9 poD_47 poD_46 rfl hro) (by first | assumption | rfl | decide | omega) (by first | assumption | rfl | decide | omega) (by decide) rfl (by first | decide | omega) (by exact Nat.le_of_ble_eq_true rfl) (fun D21 g21 => ?_)
  have hq8 : Fq PBD D D21 := hq9.tr (g21.2.2.mono (fun b i q => Or.inl q))
  have hB8 : RB D21 B (th_ B) K F := h.fq (hq8.mono (fun _ _ q => q.scr))
  have hg8 : GV2 D21 g := hg.fq (hq8.row (fun i => by unfold PBD SBD; omega))
  refine X_aload_n (nx := 25) dX8_pathOf_24 rfl rfl rfl ?_
  refine X_iload_n (nx := 26) dX8_pathOf_25 rfl rfl rfl ?_
  refine Z_Vv1 (nx := 29) dX8_pathOf_26 rfl ml_RX8_347 kj_X8_builds kv_X8_builds (sp_X8_builds (t := bwS B g (ro_ B r)) hB8 hV hg8 rfl hr g21.1 g21.2.1) (by first | assumption | rfl | decide | omega) (by first | assumption | rfl | decide | omega) (by decide) rfl (by first | decide | omega) (by exact Nat.le_of_ble_eq_true rfl) (fun D26 g26 => ?_)
  have hq7 : Fq PBD D D26 := hq8.tr (g26.2.mono (fun b i q => Or.inl q))
  have hl7 := bd_len hV (g := g) (t := bwS B g (ro_ B r)) hr
  have hl6 := g21.2.1
  refine X_aload_n (nx := 30) dX8_pathOf_29 rfl rfl rfl ?_
  refine M_getI (nx := 33) dX8_pathOf_30 rfl fl_RX8_341 rfl (by first | assumption | rfl | decide | omega) (by first | assumption | rfl | decide | omega) ?_
  refine X_top (g26.1.1) ?_
  refine X_if_eq (tgt := 59) (nx := 36) dX8_pathOf_33 rfl rfl (fun h33 => ?_) (fun h33 => ?_)
  · skip
    have h33 := b2i_f.mp h33
    refine X_bipush (v := -9) (nx := 61) dX8_pathOf_59 rfl rfl ?_
    exact Z_reti dX8_pathOf_61 (Or.inl rfl) (by
      show _ = opI ((fin4 (bdS B g r (bwS B g (ro_ B r)))).map pnum) ∧ (∀ M, fin4 (bdS B g r (bwS B g (ro_ B r))) = some M → _) ∧ _
      first
      | (rw [fin_n (fun q => by rw [h33] at q; exact absurd q.1 (by decide))]; exact ⟨rfl, (fun M hM => by cases hM), hq7⟩)
      | (rw [fin_n (fun q => absurd q.2 (by omega))]; exact ⟨rfl, (fun M hM => by cases hM), hq7⟩)
      | (rw [fin_y h33 (by omega)]; exact ⟨rfl, (fun M hM => by cases hM; exact pnum_lt2 g26.1.2.2.2.2 (by omega)), hq7⟩))
  · skip
    have h33 := b2i_t.mp h33
    refine X_aload_n (nx := 37) dX8_pathOf_36 rfl rfl rfl ?_
    refine M_getI (nx := 40) dX8_pathOf_37 rfl fl_RX8_344 rfl (by first | assumption | rfl | decide | omega) (by first | assumption | rfl | decide | omega) ?_
    refine X_top (g26.1.2.1) ?_
    refine X_iconst (v := nI 4) (nx := 41) dX8_pathOf_40 rfl rfl ?_
    refine X_icmp_gt (tgt := 59) (nx := 44) dX8_pathOf_41 rfl rfl (fun h41 => ?_) (fun h41 => ?_)
    · skip
      rw [nI_ltI (by omega) (by omega)] at h41
      refine X_bipush (v := -9) (nx := 61) dX8_pathOf_59 rfl rfl ?_
      exact Z_reti dX8_pathOf_61 (Or.inl rfl) (by
        show _ = opI ((fin4 (bdS B g r (bwS B g (ro_ B r)))).map pnum) ∧ (∀ M, fin4 (bdS B g r (bwS B g (ro_ B r))) = some M → _) ∧ _
        first
        | (rw [fin_n (fun q => by rw [h33] at q; exact absurd q.1 (by decide))]; exact ⟨rfl, (fun M hM => by cases hM), hq7⟩)
        | (rw [fin_n (fun q => absurd q.2 (by omega))]; exact ⟨rfl, (fun M hM => by cases hM), hq7⟩)
        | (rw [fin_y h33 (by omega)]; exact ⟨rfl, (fun M hM => by cases hM; exact pnum_lt2 g26.1.2.2.2.2 (by omega)), hq7⟩))
    · skip
      rw [nI_ltI (by omega) (by omega)] at h41
      refine X_aload_n (nx := 45) dX8_pathOf_44 rfl rfl rfl ?_
      refine X_aload_n (nx := 46) dX8_pathOf_45 rfl rfl rfl ?_
      refine M_getP (nx := 49) dX8_pathOf_46 rfl fl_RX8_97 rfl (by first | assumption | rfl | decide | omega) (by first | assumption | rfl | decide | omega) (by first | assumption | rfl | decide | omega) ?_
      refine X_aload_n (nx := 50) dX8_pathOf_49 rfl rfl rfl ?_
      refine M_getI (nx := 53) dX8_pathOf_50 rfl fl_RX8_344 rfl (by first | assumption | rfl | decide | omega) (by first | assumption | rfl | decide | omega) ?_
      refine X_top (g26.1.2.1) ?_
      refine Y_Vi2 (nx := 56) dX8_pathOf_53 rfl ml_RX8_356 kj_X8_numberOf kv_X8_numberOf (sp_X8_numberOf g26.1.2.2.1 (by omega) rfl) (by first | assumption | rfl | decide | omega) (by first | assumption | rfl | decide | omega) (by decide) rfl (by first | decide | omega) (by exact Nat.le_of_ble_eq_true rfl) ?_
      refine X_goto (tgt := 61) dX8_pathOf_56 rfl ?_
      exact Z_reti dX8_pathOf_61 (Or.inl rfl) (by
        show _ = opI ((fin4 (bdS B g r (bwS B g (ro_ B r)))).map pnum) ∧ (∀ M, fin4 (bdS B g r (bwS B g (ro_ B r))) = some M → _) ∧ _
        first
        | (rw [fin_n (fun q => by rw [h33] at q; exact absurd q.1 (by decide))]; exact ⟨rfl, (fun M hM => by cases hM), hq7⟩)
        | (rw [fin_n (fun q => absurd q.2 (by omega))]; exact ⟨rfl, (fun M hM => by cases hM), hq7⟩)
        | (rw [fin_y h33 (by omega)]; exact ⟨rfl, (fun M hM => by cases hM; exact pnum_lt2 g26.1.2.2.2.2 (by omega)), hq7⟩))
def gvD (D : Mem) (a b c e : Int32) : Mem := up2 (up2 (up2 (up2 D 133 0 a) 133 1 b) 133 2 c) 133 3 e
theorem gvD_fq {D : Mem} {a b c e : Int32} : Fq (fun x _ => x = 133) D (gvD D a b c e) := by
  unfold gvD
  exact Fq.up' (Fq.up' (Fq.up' (Fq.up rfl) rfl) rfl) rfl
theorem gvD_of {D : Mem} {a b c e : Nat} (ha : a < 4) (hb : b < 4) (hc : c < 4) (he : e < 4) : GV2 (gvD D (nI a) (nI b) (nI c) (nI e)) (gv4 a b c e) := by
  intro k hk
  match k, hk with
  | 0, _ => exact ⟨by simp [gvD, up2]; rfl, ha⟩
  | 1, _ => exact ⟨by simp [gvD, up2]; rfl, hb⟩
  | 2, _ => exact ⟨by simp [gvD, up2]; rfl, hc⟩
  | 3, _ => exact ⟨by simp [gvD, up2]; rfl, he⟩
theorem dX8_build_0 : decode cX8_build 0 = .ok (.iload_n 2, 1) := by decide +kernel
theorem dX8_build_1 : decode cX8_build 1 = .ok (.iconst 0, 1) := by decide +kernel
theorem dX8_build_2 : decode cX8_build 2 = .ok (.iconst 3, 1) := by decide +kernel
theorem dX8_build_3 : decode cX8_build 3 = .ok (.invokestatic 115, 3) := by decide +kernel
theorem dX8_build_6 : decode cX8_build 6 = .ok (.ifCond .eq 36, 3) := by decide +kernel
theorem dX8_build_9 : decode cX8_build 9 = .ok (.iload_n 3, 1) := by decide +kernel
theorem dX8_build_10 : decode cX8_build 10 = .ok (.iconst 0, 1) := by decide +kernel
theorem dX8_build_11 : decode cX8_build 11 = .ok (.iconst 3, 1) := by decide +kernel
theorem dX8_build_12 : decode cX8_build 12 = .ok (.invokestatic 115, 3) := by decide +kernel
theorem dX8_build_15 : decode cX8_build 15 = .ok (.ifCond .eq 27, 3) := by decide +kernel
theorem dX8_build_18 : decode cX8_build 18 = .ok (.iload 4, 2) := by decide +kernel
theorem dX8_build_20 : decode cX8_build 20 = .ok (.iconst 0, 1) := by decide +kernel
theorem dX8_build_21 : decode cX8_build 21 = .ok (.iconst 3, 1) := by decide +kernel
theorem dX8_build_22 : decode cX8_build 22 = .ok (.invokestatic 115, 3) := by decide +kernel
theorem dX8_build_25 : decode cX8_build 25 = .ok (.ifCond .eq 17, 3) := by decide +kernel
theorem dX8_build_28 : decode cX8_build 28 = .ok (.iload 5, 2) := by decide +kernel
theorem dX8_build_30 : decode cX8_build 30 = .ok (.iconst 0, 1) := by decide +kernel
theorem dX8_build_31 : decode cX8_build 31 = .ok (.iconst 3, 1) := by decide +kernel
theorem dX8_build_32 : decode cX8_build 32 = .ok (.invokestatic 115, 3) := by decide +kernel
theorem dX8_build_35 : decode cX8_build 35 = .ok (.ifCond .eq 7, 3) := by decide +kernel
theorem dX8_build_38 : decode cX8_build 38 = .ok (.iconst 1, 1) := by decide +kernel
theorem dX8_build_39 : decode cX8_build 39 = .ok (.goto 4, 3) := by decide +kernel
theorem dX8_build_42 : decode cX8_build 42 = .ok (.iconst 0, 1) := by decide +kernel
theorem dX8_build_43 : decode cX8_build 43 = .ok (.istore 6, 2) := by decide +kernel
theorem dX8_build_45 : decode cX8_build 45 = .ok (.aload_n 0, 1) := by decide +kernel
theorem dX8_build_46 : decode cX8_build 46 = .ok (.iload_n 1, 1) := by decide +kernel
theorem dX8_build_47 : decode cX8_build 47 = .ok (.invokevirtual 254, 3) := by decide +kernel
theorem dX8_build_50 : decode cX8_build 50 = .ok (.ifCond .eq 8, 3) := by decide +kernel
theorem dX8_build_53 : decode cX8_build 53 = .ok (.iload 6, 2) := by decide +kernel
theorem dX8_build_55 : decode cX8_build 55 = .ok (.ifCond .ne 7, 3) := by decide +kernel
theorem dX8_build_58 : decode cX8_build 58 = .ok (.iconst (-1), 1) := by decide +kernel
theorem dX8_build_59 : decode cX8_build 59 = .ok (.goto 17, 3) := by decide +kernel
theorem dX8_build_62 : decode cX8_build 62 = .ok (.aload_n 0, 1) := by decide +kernel
theorem dX8_build_63 : decode cX8_build 63 = .ok (.iload_n 1, 1) := by decide +kernel
theorem dX8_build_64 : decode cX8_build 64 = .ok (.invokevirtual 127, 3) := by decide +kernel
theorem dX8_build_67 : decode cX8_build 67 = .ok (.ifCond .eq 8, 3) := by decide +kernel
theorem dX8_build_70 : decode cX8_build 70 = .ok (.bipush (-3), 2) := by decide +kernel
theorem dX8_build_72 : decode cX8_build 72 = .ok (.goto 4, 3) := by decide +kernel
theorem dX8_build_75 : decode cX8_build 75 = .ok (.iconst 0, 1) := by decide +kernel
theorem dX8_build_76 : decode cX8_build 76 = .ok (.istore 7, 2) := by decide +kernel
theorem dX8_build_78 : decode cX8_build 78 = .ok (.iload 7, 2) := by decide +kernel
theorem dX8_build_80 : decode cX8_build 80 = .ok (.ifCond .eq 10, 3) := by decide +kernel
theorem dX8_build_83 : decode cX8_build 83 = .ok (.aload_n 0, 1) := by decide +kernel
theorem dX8_build_84 : decode cX8_build 84 = .ok (.iload 7, 2) := by decide +kernel
theorem dX8_build_86 : decode cX8_build 86 = .ok (.invokevirtual 211, 3) := by decide +kernel
theorem dX8_build_89 : decode cX8_build 89 = .ok (.ireturn, 1) := by decide +kernel
theorem dX8_build_90 : decode cX8_build 90 = .ok (.aload_n 0, 1) := by decide +kernel
theorem dX8_build_91 : decode cX8_build 91 = .ok (.getfield 94, 3) := by decide +kernel
theorem dX8_build_94 : decode cX8_build 94 = .ok (.iconst 0, 1) := by decide +kernel
theorem dX8_build_95 : decode cX8_build 95 = .ok (.iload_n 2, 1) := by decide +kernel
theorem dX8_build_96 : decode cX8_build 96 = .ok (.iastore, 1) := by decide +kernel
theorem dX8_build_97 : decode cX8_build 97 = .ok (.aload_n 0, 1) := by decide +kernel
theorem dX8_build_98 : decode cX8_build 98 = .ok (.getfield 94, 3) := by decide +kernel
theorem dX8_build_101 : decode cX8_build 101 = .ok (.iconst 1, 1) := by decide +kernel
theorem dX8_build_102 : decode cX8_build 102 = .ok (.iload_n 3, 1) := by decide +kernel
theorem dX8_build_103 : decode cX8_build 103 = .ok (.iastore, 1) := by decide +kernel
theorem dX8_build_104 : decode cX8_build 104 = .ok (.aload_n 0, 1) := by decide +kernel
theorem dX8_build_105 : decode cX8_build 105 = .ok (.getfield 94, 3) := by decide +kernel
theorem dX8_build_108 : decode cX8_build 108 = .ok (.iconst 2, 1) := by decide +kernel
theorem dX8_build_109 : decode cX8_build 109 = .ok (.iload 4, 2) := by decide +kernel
theorem dX8_build_111 : decode cX8_build 111 = .ok (.iastore, 1) := by decide +kernel
theorem dX8_build_112 : decode cX8_build 112 = .ok (.aload_n 0, 1) := by decide +kernel
theorem dX8_build_113 : decode cX8_build 113 = .ok (.getfield 94, 3) := by decide +kernel
theorem dX8_build_116 : decode cX8_build 116 = .ok (.iconst 3, 1) := by decide +kernel
theorem dX8_build_117 : decode cX8_build 117 = .ok (.iload 5, 2) := by decide +kernel
theorem dX8_build_119 : decode cX8_build 119 = .ok (.iastore, 1) := by decide +kernel
theorem dX8_build_120 : decode cX8_build 120 = .ok (.aload_n 0, 1) := by decide +kernel
theorem dX8_build_121 : decode cX8_build 121 = .ok (.iload_n 1, 1) := by decide +kernel
theorem dX8_build_122 : decode cX8_build 122 = .ok (.invokevirtual 360, 3) := by decide +kernel
theorem dX8_build_125 : decode cX8_build 125 = .ok (.ireturn, 1) := by decide +kernel
theorem sp_X8_build {x a b c e : Int32} {S : St} {D : Mem} (h : INV2 D S) (hw : WF S) : Rix 5 j_X8_build [.ref 104, .int x, .int a, .int b, .int c, .int e] D (fun u D' => CK2 D (m_build S x a b c e) u D') := by
  refine E.start 2 (ls := [some (.ref 104), some (.int x), some (.int a), some (.int b), some (.int c), some (.int e), none, none]) (by decide +kernel) (Nat.le_of_ble_eq_true rfl) rfl (Nat.le_refl _) (Nat.le_refl _) ?_
  have hcm := hw.1.2.1
  have hB2 := h.1.2.1
  refine X_iload_n (nx := 1) dX8_build_0 rfl rfl rfl ?_
  refine X_iconst (v := 0) (nx := 2) dX8_build_1 rfl rfl ?_
  refine X_iconst (v := 3) (nx := 3) dX8_build_2 rfl rfl ?_
  refine Y_Si3 (nx := 6) dX8_build_3 rfl ml_RX8_115 kj_X8_isIn ks_X8_isIn (sp_X8_isIn) (by first | decide | omega) (by exact Nat.le_of_ble_eq_true rfl) ?_
  refine X_top (congrArg b2i (d_in (n := 3) (by decide))) ?_
  refine X_if_eq (tgt := 42) (nx := 9) dX8_build_6 rfl rfl (fun h6 => ?_) (fun h6 => ?_)
  · skip
    have n6 := nb h6
    refine X_iconst (v := 0) (nx := 43) dX8_build_42 rfl rfl ?_
    refine X_istore (i := 6) (nx := 45) dX8_build_43 rfl (by decide) rfl (st_s (st_s (st_s (st_s (st_s (st_s (st_0))))))) ?_
    refine X_aload_n (nx := 46) dX8_build_45 rfl rfl rfl ?_
    refine X_iload_n (nx := 47) dX8_build_46 rfl rfl rfl ?_
    refine Y_Vi1 (nx := 50) dX8_build_47 rfl ml_RX8_254 kj_X8_isRoute kv_X8_isRoute (sp_X8_isRoute h.1 hw.1) (by first | assumption | rfl | decide | omega) (by first | assumption | rfl | decide | omega) (by decide) rfl (by first | decide | omega) (by exact Nat.le_of_ble_eq_true rfl) ?_
    refine X_top (show _ = b2i (isTh (bk S) x) from rfl) ?_
    refine X_if_eq (tgt := 58) (nx := 53) dX8_build_50 rfl rfl (fun h50 => ?_) (fun h50 => ?_)
    · skip
      have n50 := nb h50
      refine X_iconst (v := -1) (nx := 59) dX8_build_58 rfl rfl ?_
      refine X_goto (tgt := 76) dX8_build_59 rfl ?_
      refine X_istore (i := 7) (nx := 78) dX8_build_76 rfl (by decide) rfl (st_s (st_s (st_s (st_s (st_s (st_s (st_s (st_0)))))))) ?_
      refine X_iload (nx := 80) dX8_build_78 rfl rfl ?_
      refine X_if_eq (tgt := 90) (nx := 83) dX8_build_80 rfl rfl (fun h80 => ?_) (fun h80 => ?_)
      · exact absurd h80 (by decide)
      · skip
        refine X_aload_n (nx := 84) dX8_build_83 rfl rfl rfl ?_
        refine X_iload (nx := 86) dX8_build_84 rfl rfl ?_
        refine Y_Vi1 (nx := 89) dX8_build_86 rfl ml_RX8_211 kj_X8_no kv_X8_no (by first | exact sp_X8_no (k := 1) rfl (by omega) (by omega) | exact sp_X8_no (k := 3) rfl (by omega) (by omega)) (by first | assumption | rfl | decide | omega) (by first | assumption | rfl | decide | omega) (by decide) rfl (by first | decide | omega) (by exact Nat.le_of_ble_eq_true rfl) ?_
        exact Z_reti dX8_build_89 (Or.inl rfl) (by
          unfold m_build
          first
          | (rw [if_neg (fun q => by first | exact n50 q.1 | exact n6 q.2.1 | exact n15 q.2.2.1 | exact n25 q.2.2.2.1 | exact n35 q.2.2.2.2)]; exact ck2_no (k := 1) h Fr.rf (by omega) (by omega))
          | (rw [if_pos ⟨c50, c6, c15, c25, c35⟩, k50, if_pos c67]; exact ck2_no (k := 3) h Fr.rf (by omega) (by omega)))
    · skip
      have c50 := b2i_t.mp h50
      obtain ⟨r, hr, rfl, tr⟩ := isTh_t hcm c50
      have k50 : (nI r).toNatClampNeg = r := nI_clamp (by omega)
      refine X_iload (nx := 55) dX8_build_53 rfl rfl ?_
      refine X_if_ne (tgt := 62) (nx := 58) dX8_build_55 rfl rfl (fun h55 => ?_) (fun h55 => ?_)
      · exact absurd h55 (by decide)
      · skip
        refine X_iconst (v := -1) (nx := 59) dX8_build_58 rfl rfl ?_
        refine X_goto (tgt := 76) dX8_build_59 rfl ?_
        refine X_istore (i := 7) (nx := 78) dX8_build_76 rfl (by decide) rfl (st_s (st_s (st_s (st_s (st_s (st_s (st_s (st_0)))))))) ?_
        refine X_iload (nx := 80) dX8_build_78 rfl rfl ?_
        refine X_if_eq (tgt := 90) (nx := 83) dX8_build_80 rfl rfl (fun h80 => ?_) (fun h80 => ?_)
        · exact absurd h80 (by decide)
        · skip
          refine X_aload_n (nx := 84) dX8_build_83 rfl rfl rfl ?_
          refine X_iload (nx := 86) dX8_build_84 rfl rfl ?_
          refine Y_Vi1 (nx := 89) dX8_build_86 rfl ml_RX8_211 kj_X8_no kv_X8_no (by first | exact sp_X8_no (k := 1) rfl (by omega) (by omega) | exact sp_X8_no (k := 3) rfl (by omega) (by omega)) (by first | assumption | rfl | decide | omega) (by first | assumption | rfl | decide | omega) (by decide) rfl (by first | decide | omega) (by exact Nat.le_of_ble_eq_true rfl) ?_
          exact Z_reti dX8_build_89 (Or.inl rfl) (by
            unfold m_build
            first
            | (rw [if_neg (fun q => by first | exact n50 q.1 | exact n6 q.2.1 | exact n15 q.2.2.1 | exact n25 q.2.2.2.1 | exact n35 q.2.2.2.2)]; exact ck2_no (k := 1) h Fr.rf (by omega) (by omega))
            | (rw [if_pos ⟨c50, c6, c15, c25, c35⟩, k50, if_pos c67]; exact ck2_no (k := 3) h Fr.rf (by omega) (by omega)))
  · skip
    have c6 := b2i_t.mp h6
    refine X_iload_n (nx := 10) dX8_build_9 rfl rfl rfl ?_
    refine X_iconst (v := 0) (nx := 11) dX8_build_10 rfl rfl ?_
    refine X_iconst (v := 3) (nx := 12) dX8_build_11 rfl rfl ?_
    refine Y_Si3 (nx := 15) dX8_build_12 rfl ml_RX8_115 kj_X8_isIn ks_X8_isIn (sp_X8_isIn) (by first | decide | omega) (by exact Nat.le_of_ble_eq_true rfl) ?_
    refine X_top (congrArg b2i (d_in (n := 3) (by decide))) ?_
    refine X_if_eq (tgt := 42) (nx := 18) dX8_build_15 rfl rfl (fun h15 => ?_) (fun h15 => ?_)
    · skip
      have n15 := nb h15
      refine X_iconst (v := 0) (nx := 43) dX8_build_42 rfl rfl ?_
      refine X_istore (i := 6) (nx := 45) dX8_build_43 rfl (by decide) rfl (st_s (st_s (st_s (st_s (st_s (st_s (st_0))))))) ?_
      refine X_aload_n (nx := 46) dX8_build_45 rfl rfl rfl ?_
      refine X_iload_n (nx := 47) dX8_build_46 rfl rfl rfl ?_
      refine Y_Vi1 (nx := 50) dX8_build_47 rfl ml_RX8_254 kj_X8_isRoute kv_X8_isRoute (sp_X8_isRoute h.1 hw.1) (by first | assumption | rfl | decide | omega) (by first | assumption | rfl | decide | omega) (by decide) rfl (by first | decide | omega) (by exact Nat.le_of_ble_eq_true rfl) ?_
      refine X_top (show _ = b2i (isTh (bk S) x) from rfl) ?_
      refine X_if_eq (tgt := 58) (nx := 53) dX8_build_50 rfl rfl (fun h50 => ?_) (fun h50 => ?_)
      · skip
        have n50 := nb h50
        refine X_iconst (v := -1) (nx := 59) dX8_build_58 rfl rfl ?_
        refine X_goto (tgt := 76) dX8_build_59 rfl ?_
        refine X_istore (i := 7) (nx := 78) dX8_build_76 rfl (by decide) rfl (st_s (st_s (st_s (st_s (st_s (st_s (st_s (st_0)))))))) ?_
        refine X_iload (nx := 80) dX8_build_78 rfl rfl ?_
        refine X_if_eq (tgt := 90) (nx := 83) dX8_build_80 rfl rfl (fun h80 => ?_) (fun h80 => ?_)
        · exact absurd h80 (by decide)
        · skip
          refine X_aload_n (nx := 84) dX8_build_83 rfl rfl rfl ?_
          refine X_iload (nx := 86) dX8_build_84 rfl rfl ?_
          refine Y_Vi1 (nx := 89) dX8_build_86 rfl ml_RX8_211 kj_X8_no kv_X8_no (by first | exact sp_X8_no (k := 1) rfl (by omega) (by omega) | exact sp_X8_no (k := 3) rfl (by omega) (by omega)) (by first | assumption | rfl | decide | omega) (by first | assumption | rfl | decide | omega) (by decide) rfl (by first | decide | omega) (by exact Nat.le_of_ble_eq_true rfl) ?_
          exact Z_reti dX8_build_89 (Or.inl rfl) (by
            unfold m_build
            first
            | (rw [if_neg (fun q => by first | exact n50 q.1 | exact n6 q.2.1 | exact n15 q.2.2.1 | exact n25 q.2.2.2.1 | exact n35 q.2.2.2.2)]; exact ck2_no (k := 1) h Fr.rf (by omega) (by omega))
            | (rw [if_pos ⟨c50, c6, c15, c25, c35⟩, k50, if_pos c67]; exact ck2_no (k := 3) h Fr.rf (by omega) (by omega)))
      · skip
        have c50 := b2i_t.mp h50
        obtain ⟨r, hr, rfl, tr⟩ := isTh_t hcm c50
        have k50 : (nI r).toNatClampNeg = r := nI_clamp (by omega)
        refine X_iload (nx := 55) dX8_build_53 rfl rfl ?_
        refine X_if_ne (tgt := 62) (nx := 58) dX8_build_55 rfl rfl (fun h55 => ?_) (fun h55 => ?_)
        · exact absurd h55 (by decide)
        · skip
          refine X_iconst (v := -1) (nx := 59) dX8_build_58 rfl rfl ?_
          refine X_goto (tgt := 76) dX8_build_59 rfl ?_
          refine X_istore (i := 7) (nx := 78) dX8_build_76 rfl (by decide) rfl (st_s (st_s (st_s (st_s (st_s (st_s (st_s (st_0)))))))) ?_
          refine X_iload (nx := 80) dX8_build_78 rfl rfl ?_
          refine X_if_eq (tgt := 90) (nx := 83) dX8_build_80 rfl rfl (fun h80 => ?_) (fun h80 => ?_)
          · exact absurd h80 (by decide)
          · skip
            refine X_aload_n (nx := 84) dX8_build_83 rfl rfl rfl ?_
            refine X_iload (nx := 86) dX8_build_84 rfl rfl ?_
            refine Y_Vi1 (nx := 89) dX8_build_86 rfl ml_RX8_211 kj_X8_no kv_X8_no (by first | exact sp_X8_no (k := 1) rfl (by omega) (by omega) | exact sp_X8_no (k := 3) rfl (by omega) (by omega)) (by first | assumption | rfl | decide | omega) (by first | assumption | rfl | decide | omega) (by decide) rfl (by first | decide | omega) (by exact Nat.le_of_ble_eq_true rfl) ?_
            exact Z_reti dX8_build_89 (Or.inl rfl) (by
              unfold m_build
              first
              | (rw [if_neg (fun q => by first | exact n50 q.1 | exact n6 q.2.1 | exact n15 q.2.2.1 | exact n25 q.2.2.2.1 | exact n35 q.2.2.2.2)]; exact ck2_no (k := 1) h Fr.rf (by omega) (by omega))
              | (rw [if_pos ⟨c50, c6, c15, c25, c35⟩, k50, if_pos c67]; exact ck2_no (k := 3) h Fr.rf (by omega) (by omega)))
    · skip
      have c15 := b2i_t.mp h15
      refine X_iload (nx := 20) dX8_build_18 rfl rfl ?_
      refine X_iconst (v := 0) (nx := 21) dX8_build_20 rfl rfl ?_
      refine X_iconst (v := 3) (nx := 22) dX8_build_21 rfl rfl ?_
      refine Y_Si3 (nx := 25) dX8_build_22 rfl ml_RX8_115 kj_X8_isIn ks_X8_isIn (sp_X8_isIn) (by first | decide | omega) (by exact Nat.le_of_ble_eq_true rfl) ?_
      refine X_top (congrArg b2i (d_in (n := 3) (by decide))) ?_
      refine X_if_eq (tgt := 42) (nx := 28) dX8_build_25 rfl rfl (fun h25 => ?_) (fun h25 => ?_)
      · skip
        have n25 := nb h25
        refine X_iconst (v := 0) (nx := 43) dX8_build_42 rfl rfl ?_
        refine X_istore (i := 6) (nx := 45) dX8_build_43 rfl (by decide) rfl (st_s (st_s (st_s (st_s (st_s (st_s (st_0))))))) ?_
        refine X_aload_n (nx := 46) dX8_build_45 rfl rfl rfl ?_
        refine X_iload_n (nx := 47) dX8_build_46 rfl rfl rfl ?_
        refine Y_Vi1 (nx := 50) dX8_build_47 rfl ml_RX8_254 kj_X8_isRoute kv_X8_isRoute (sp_X8_isRoute h.1 hw.1) (by first | assumption | rfl | decide | omega) (by first | assumption | rfl | decide | omega) (by decide) rfl (by first | decide | omega) (by exact Nat.le_of_ble_eq_true rfl) ?_
        refine X_top (show _ = b2i (isTh (bk S) x) from rfl) ?_
        refine X_if_eq (tgt := 58) (nx := 53) dX8_build_50 rfl rfl (fun h50 => ?_) (fun h50 => ?_)
        · skip
          have n50 := nb h50
          refine X_iconst (v := -1) (nx := 59) dX8_build_58 rfl rfl ?_
          refine X_goto (tgt := 76) dX8_build_59 rfl ?_
          refine X_istore (i := 7) (nx := 78) dX8_build_76 rfl (by decide) rfl (st_s (st_s (st_s (st_s (st_s (st_s (st_s (st_0)))))))) ?_
          refine X_iload (nx := 80) dX8_build_78 rfl rfl ?_
          refine X_if_eq (tgt := 90) (nx := 83) dX8_build_80 rfl rfl (fun h80 => ?_) (fun h80 => ?_)
          · exact absurd h80 (by decide)
          · skip
            refine X_aload_n (nx := 84) dX8_build_83 rfl rfl rfl ?_
            refine X_iload (nx := 86) dX8_build_84 rfl rfl ?_
            refine Y_Vi1 (nx := 89) dX8_build_86 rfl ml_RX8_211 kj_X8_no kv_X8_no (by first | exact sp_X8_no (k := 1) rfl (by omega) (by omega) | exact sp_X8_no (k := 3) rfl (by omega) (by omega)) (by first | assumption | rfl | decide | omega) (by first | assumption | rfl | decide | omega) (by decide) rfl (by first | decide | omega) (by exact Nat.le_of_ble_eq_true rfl) ?_
            exact Z_reti dX8_build_89 (Or.inl rfl) (by
              unfold m_build
              first
              | (rw [if_neg (fun q => by first | exact n50 q.1 | exact n6 q.2.1 | exact n15 q.2.2.1 | exact n25 q.2.2.2.1 | exact n35 q.2.2.2.2)]; exact ck2_no (k := 1) h Fr.rf (by omega) (by omega))
              | (rw [if_pos ⟨c50, c6, c15, c25, c35⟩, k50, if_pos c67]; exact ck2_no (k := 3) h Fr.rf (by omega) (by omega)))
        · skip
          have c50 := b2i_t.mp h50
          obtain ⟨r, hr, rfl, tr⟩ := isTh_t hcm c50
          have k50 : (nI r).toNatClampNeg = r := nI_clamp (by omega)
          refine X_iload (nx := 55) dX8_build_53 rfl rfl ?_
          refine X_if_ne (tgt := 62) (nx := 58) dX8_build_55 rfl rfl (fun h55 => ?_) (fun h55 => ?_)
          · exact absurd h55 (by decide)
          · skip
            refine X_iconst (v := -1) (nx := 59) dX8_build_58 rfl rfl ?_
            refine X_goto (tgt := 76) dX8_build_59 rfl ?_
            refine X_istore (i := 7) (nx := 78) dX8_build_76 rfl (by decide) rfl (st_s (st_s (st_s (st_s (st_s (st_s (st_s (st_0)))))))) ?_
            refine X_iload (nx := 80) dX8_build_78 rfl rfl ?_
            refine X_if_eq (tgt := 90) (nx := 83) dX8_build_80 rfl rfl (fun h80 => ?_) (fun h80 => ?_)
            · exact absurd h80 (by decide)
            · skip
              refine X_aload_n (nx := 84) dX8_build_83 rfl rfl rfl ?_
              refine X_iload (nx := 86) dX8_build_84 rfl rfl ?_
              refine Y_Vi1 (nx := 89) dX8_build_86 rfl ml_RX8_211 kj_X8_no kv_X8_no (by first | exact sp_X8_no (k := 1) rfl (by omega) (by omega) | exact sp_X8_no (k := 3) rfl (by omega) (by omega)) (by first | assumption | rfl | decide | omega) (by first | assumption | rfl | decide | omega) (by decide) rfl (by first | decide | omega) (by exact Nat.le_of_ble_eq_true rfl) ?_
              exact Z_reti dX8_build_89 (Or.inl rfl) (by
                unfold m_build
                first
                | (rw [if_neg (fun q => by first | exact n50 q.1 | exact n6 q.2.1 | exact n15 q.2.2.1 | exact n25 q.2.2.2.1 | exact n35 q.2.2.2.2)]; exact ck2_no (k := 1) h Fr.rf (by omega) (by omega))
                | (rw [if_pos ⟨c50, c6, c15, c25, c35⟩, k50, if_pos c67]; exact ck2_no (k := 3) h Fr.rf (by omega) (by omega)))
      · skip
        have c25 := b2i_t.mp h25
        refine X_iload (nx := 30) dX8_build_28 rfl rfl ?_
        refine X_iconst (v := 0) (nx := 31) dX8_build_30 rfl rfl ?_
        refine X_iconst (v := 3) (nx := 32) dX8_build_31 rfl rfl ?_
        refine Y_Si3 (nx := 35) dX8_build_32 rfl ml_RX8_115 kj_X8_isIn ks_X8_isIn (sp_X8_isIn) (by first | decide | omega) (by exact Nat.le_of_ble_eq_true rfl) ?_
        refine X_top (congrArg b2i (d_in (n := 3) (by decide))) ?_
        refine X_if_eq (tgt := 42) (nx := 38) dX8_build_35 rfl rfl (fun h35 => ?_) (fun h35 => ?_)
        · skip
          have n35 := nb h35
          refine X_iconst (v := 0) (nx := 43) dX8_build_42 rfl rfl ?_
          refine X_istore (i := 6) (nx := 45) dX8_build_43 rfl (by decide) rfl (st_s (st_s (st_s (st_s (st_s (st_s (st_0))))))) ?_
          refine X_aload_n (nx := 46) dX8_build_45 rfl rfl rfl ?_
          refine X_iload_n (nx := 47) dX8_build_46 rfl rfl rfl ?_
          refine Y_Vi1 (nx := 50) dX8_build_47 rfl ml_RX8_254 kj_X8_isRoute kv_X8_isRoute (sp_X8_isRoute h.1 hw.1) (by first | assumption | rfl | decide | omega) (by first | assumption | rfl | decide | omega) (by decide) rfl (by first | decide | omega) (by exact Nat.le_of_ble_eq_true rfl) ?_
          refine X_top (show _ = b2i (isTh (bk S) x) from rfl) ?_
          refine X_if_eq (tgt := 58) (nx := 53) dX8_build_50 rfl rfl (fun h50 => ?_) (fun h50 => ?_)
          · skip
            have n50 := nb h50
            refine X_iconst (v := -1) (nx := 59) dX8_build_58 rfl rfl ?_
            refine X_goto (tgt := 76) dX8_build_59 rfl ?_
            refine X_istore (i := 7) (nx := 78) dX8_build_76 rfl (by decide) rfl (st_s (st_s (st_s (st_s (st_s (st_s (st_s (st_0)))))))) ?_
            refine X_iload (nx := 80) dX8_build_78 rfl rfl ?_
            refine X_if_eq (tgt := 90) (nx := 83) dX8_build_80 rfl rfl (fun h80 => ?_) (fun h80 => ?_)
            · exact absurd h80 (by decide)
            · skip
              refine X_aload_n (nx := 84) dX8_build_83 rfl rfl rfl ?_
              refine X_iload (nx := 86) dX8_build_84 rfl rfl ?_
              refine Y_Vi1 (nx := 89) dX8_build_86 rfl ml_RX8_211 kj_X8_no kv_X8_no (by first | exact sp_X8_no (k := 1) rfl (by omega) (by omega) | exact sp_X8_no (k := 3) rfl (by omega) (by omega)) (by first | assumption | rfl | decide | omega) (by first | assumption | rfl | decide | omega) (by decide) rfl (by first | decide | omega) (by exact Nat.le_of_ble_eq_true rfl) ?_
              exact Z_reti dX8_build_89 (Or.inl rfl) (by
                unfold m_build
                first
                | (rw [if_neg (fun q => by first | exact n50 q.1 | exact n6 q.2.1 | exact n15 q.2.2.1 | exact n25 q.2.2.2.1 | exact n35 q.2.2.2.2)]; exact ck2_no (k := 1) h Fr.rf (by omega) (by omega))
                | (rw [if_pos ⟨c50, c6, c15, c25, c35⟩, k50, if_pos c67]; exact ck2_no (k := 3) h Fr.rf (by omega) (by omega)))
          · skip
            have c50 := b2i_t.mp h50
            obtain ⟨r, hr, rfl, tr⟩ := isTh_t hcm c50
            have k50 : (nI r).toNatClampNeg = r := nI_clamp (by omega)
            refine X_iload (nx := 55) dX8_build_53 rfl rfl ?_
            refine X_if_ne (tgt := 62) (nx := 58) dX8_build_55 rfl rfl (fun h55 => ?_) (fun h55 => ?_)
            · exact absurd h55 (by decide)
            · skip
              refine X_iconst (v := -1) (nx := 59) dX8_build_58 rfl rfl ?_
              refine X_goto (tgt := 76) dX8_build_59 rfl ?_
              refine X_istore (i := 7) (nx := 78) dX8_build_76 rfl (by decide) rfl (st_s (st_s (st_s (st_s (st_s (st_s (st_s (st_0)))))))) ?_
              refine X_iload (nx := 80) dX8_build_78 rfl rfl ?_
              refine X_if_eq (tgt := 90) (nx := 83) dX8_build_80 rfl rfl (fun h80 => ?_) (fun h80 => ?_)
              · exact absurd h80 (by decide)
              · skip
                refine X_aload_n (nx := 84) dX8_build_83 rfl rfl rfl ?_
                refine X_iload (nx := 86) dX8_build_84 rfl rfl ?_
                refine Y_Vi1 (nx := 89) dX8_build_86 rfl ml_RX8_211 kj_X8_no kv_X8_no (by first | exact sp_X8_no (k := 1) rfl (by omega) (by omega) | exact sp_X8_no (k := 3) rfl (by omega) (by omega)) (by first | assumption | rfl | decide | omega) (by first | assumption | rfl | decide | omega) (by decide) rfl (by first | decide | omega) (by exact Nat.le_of_ble_eq_true rfl) ?_
                exact Z_reti dX8_build_89 (Or.inl rfl) (by
                  unfold m_build
                  first
                  | (rw [if_neg (fun q => by first | exact n50 q.1 | exact n6 q.2.1 | exact n15 q.2.2.1 | exact n25 q.2.2.2.1 | exact n35 q.2.2.2.2)]; exact ck2_no (k := 1) h Fr.rf (by omega) (by omega))
                  | (rw [if_pos ⟨c50, c6, c15, c25, c35⟩, k50, if_pos c67]; exact ck2_no (k := 3) h Fr.rf (by omega) (by omega)))
        · skip
          have c35 := b2i_t.mp h35
          refine X_iconst (v := 1) (nx := 39) dX8_build_38 rfl rfl ?_
          refine X_goto (tgt := 43) dX8_build_39 rfl ?_
          refine X_istore (i := 6) (nx := 45) dX8_build_43 rfl (by decide) rfl (st_s (st_s (st_s (st_s (st_s (st_s (st_0))))))) ?_
          refine X_aload_n (nx := 46) dX8_build_45 rfl rfl rfl ?_
          refine X_iload_n (nx := 47) dX8_build_46 rfl rfl rfl ?_
          refine Y_Vi1 (nx := 50) dX8_build_47 rfl ml_RX8_254 kj_X8_isRoute kv_X8_isRoute (sp_X8_isRoute h.1 hw.1) (by first | assumption | rfl | decide | omega) (by first | assumption | rfl | decide | omega) (by decide) rfl (by first | decide | omega) (by exact Nat.le_of_ble_eq_true rfl) ?_
          refine X_top (show _ = b2i (isTh (bk S) x) from rfl) ?_
          refine X_if_eq (tgt := 58) (nx := 53) dX8_build_50 rfl rfl (fun h50 => ?_) (fun h50 => ?_)
          · skip
            have n50 := nb h50
            refine X_iconst (v := -1) (nx := 59) dX8_build_58 rfl rfl ?_
            refine X_goto (tgt := 76) dX8_build_59 rfl ?_
            refine X_istore (i := 7) (nx := 78) dX8_build_76 rfl (by decide) rfl (st_s (st_s (st_s (st_s (st_s (st_s (st_s (st_0)))))))) ?_
            refine X_iload (nx := 80) dX8_build_78 rfl rfl ?_
            refine X_if_eq (tgt := 90) (nx := 83) dX8_build_80 rfl rfl (fun h80 => ?_) (fun h80 => ?_)
            · exact absurd h80 (by decide)
            · skip
              refine X_aload_n (nx := 84) dX8_build_83 rfl rfl rfl ?_
              refine X_iload (nx := 86) dX8_build_84 rfl rfl ?_
              refine Y_Vi1 (nx := 89) dX8_build_86 rfl ml_RX8_211 kj_X8_no kv_X8_no (by first | exact sp_X8_no (k := 1) rfl (by omega) (by omega) | exact sp_X8_no (k := 3) rfl (by omega) (by omega)) (by first | assumption | rfl | decide | omega) (by first | assumption | rfl | decide | omega) (by decide) rfl (by first | decide | omega) (by exact Nat.le_of_ble_eq_true rfl) ?_
              exact Z_reti dX8_build_89 (Or.inl rfl) (by
                unfold m_build
                first
                | (rw [if_neg (fun q => by first | exact n50 q.1 | exact n6 q.2.1 | exact n15 q.2.2.1 | exact n25 q.2.2.2.1 | exact n35 q.2.2.2.2)]; exact ck2_no (k := 1) h Fr.rf (by omega) (by omega))
                | (rw [if_pos ⟨c50, c6, c15, c25, c35⟩, k50, if_pos c67]; exact ck2_no (k := 3) h Fr.rf (by omega) (by omega)))
          · skip
            have c50 := b2i_t.mp h50
            obtain ⟨r, hr, rfl, tr⟩ := isTh_t hcm c50
            have k50 : (nI r).toNatClampNeg = r := nI_clamp (by omega)
            refine X_iload (nx := 55) dX8_build_53 rfl rfl ?_
            refine X_if_ne (tgt := 62) (nx := 58) dX8_build_55 rfl rfl (fun h55 => ?_) (fun h55 => ?_)
            · skip
              refine X_aload_n (nx := 63) dX8_build_62 rfl rfl rfl ?_
              refine X_iload_n (nx := 64) dX8_build_63 rfl rfl rfl ?_
              refine Y_Vi1 (nx := 67) dX8_build_64 rfl ml_RX8_127 kj_X8_isMount kv_X8_isMount (sp_X8_isMount h.1 hw.1 rfl hr) (by first | assumption | rfl | decide | omega) (by first | assumption | rfl | decide | omega) (by decide) rfl (by first | decide | omega) (by exact Nat.le_of_ble_eq_true rfl) ?_
              refine X_if_eq (tgt := 75) (nx := 70) dX8_build_67 rfl rfl (fun h67 => ?_) (fun h67 => ?_)
              · skip
                have n67 := nb h67
                refine X_iconst (v := 0) (nx := 76) dX8_build_75 rfl rfl ?_
                refine X_istore (i := 7) (nx := 78) dX8_build_76 rfl (by decide) rfl (st_s (st_s (st_s (st_s (st_s (st_s (st_s (st_0)))))))) ?_
                refine X_iload (nx := 80) dX8_build_78 rfl rfl ?_
                refine X_if_eq (tgt := 90) (nx := 83) dX8_build_80 rfl rfl (fun h80 => ?_) (fun h80 => ?_)
                · skip
                  refine X_aload_n (nx := 91) dX8_build_90 rfl rfl rfl ?_
                  refine M_getP (nx := 94) dX8_build_91 rfl fl_RX8_94 rfl (by first | assumption | rfl | decide | omega) (by first | assumption | rfl | decide | omega) (by first | assumption | rfl | decide | omega) ?_
                  refine X_iconst (v := nI 0) (nx := 95) dX8_build_94 rfl rfl ?_
                  refine X_iload_n (nx := 96) dX8_build_95 rfl rfl rfl ?_
                  refine M_st (a := 133) (L := 4) (nx := 97) dX8_build_96 rfl (by decide) (by decide) rfl (by decide) (by omega) ?_
                  refine X_aload_n (nx := 98) dX8_build_97 rfl rfl rfl ?_
                  refine M_getP (nx := 101) dX8_build_98 rfl fl_RX8_94 rfl (by first | assumption | rfl | decide | omega) (by first | assumption | rfl | decide | omega) (by first | assumption | rfl | decide | omega) ?_
                  refine X_iconst (v := nI 1) (nx := 102) dX8_build_101 rfl rfl ?_
                  refine X_iload_n (nx := 103) dX8_build_102 rfl rfl rfl ?_
                  refine M_st (a := 133) (L := 4) (nx := 104) dX8_build_103 rfl (by decide) (by decide) rfl (by decide) (by omega) ?_
                  refine X_aload_n (nx := 105) dX8_build_104 rfl rfl rfl ?_
                  refine M_getP (nx := 108) dX8_build_105 rfl fl_RX8_94 rfl (by first | assumption | rfl | decide | omega) (by first | assumption | rfl | decide | omega) (by first | assumption | rfl | decide | omega) ?_
                  refine X_iconst (v := nI 2) (nx := 109) dX8_build_108 rfl rfl ?_
                  refine X_iload (nx := 111) dX8_build_109 rfl rfl ?_
                  refine M_st (a := 133) (L := 4) (nx := 112) dX8_build_111 rfl (by decide) (by decide) rfl (by decide) (by omega) ?_
                  refine X_aload_n (nx := 113) dX8_build_112 rfl rfl rfl ?_
                  refine M_getP (nx := 116) dX8_build_113 rfl fl_RX8_94 rfl (by first | assumption | rfl | decide | omega) (by first | assumption | rfl | decide | omega) (by first | assumption | rfl | decide | omega) ?_
                  refine X_iconst (v := nI 3) (nx := 117) dX8_build_116 rfl rfl ?_
                  refine X_iload (nx := 119) dX8_build_117 rfl rfl ?_
                  refine M_st (a := 133) (L := 4) (nx := 120) dX8_build_119 rfl (by decide) (by decide) rfl (by decide) (by omega) ?_
                  obtain ⟨a0, ha0, rfl⟩ := ex_nI (x := a) (N := 4) (n := 4) rfl (by decide) (of_decide_eq_true c6)
                  have ka0 : (nI a0).toNatClampNeg = a0 := nI_clamp (by omega)
                  obtain ⟨b0, hb0, rfl⟩ := ex_nI (x := b) (N := 4) (n := 4) rfl (by decide) (of_decide_eq_true c15)
                  have kb0 : (nI b0).toNatClampNeg = b0 := nI_clamp (by omega)
                  obtain ⟨c0, hc0, rfl⟩ := ex_nI (x := c) (N := 4) (n := 4) rfl (by decide) (of_decide_eq_true c25)
                  have kc0 : (nI c0).toNatClampNeg = c0 := nI_clamp (by omega)
                  obtain ⟨e0, he0, rfl⟩ := ex_nI (x := e) (N := 4) (n := 4) rfl (by decide) (of_decide_eq_true c35)
                  have ke0 : (nI e0).toNatClampNeg = e0 := nI_clamp (by omega)
                  show X 5 138 j_X8_build 120 _ [] (138, P0, gvD D (nI a0) (nI b0) (nI c0) (nI e0)) _
                  have hi1 := scr_inv h hw (gvD_fq.mono (fun b i q => by unfold SCR; omega) : Fq SCR D (gvD D (nI a0) (nI b0) (nI c0) (nI e0)))
                  have hgv := gvD_of (D := D) ha0 hb0 hc0 he0
                  refine X_aload_n (nx := 121) dX8_build_120 rfl rfl rfl ?_
                  refine X_iload_n (nx := 122) dX8_build_121 rfl rfl rfl ?_
                  refine Z_Vi1 (nx := 125) dX8_build_122 rfl ml_RX8_360 kj_X8_pathOf kv_X8_pathOf (sp_X8_pathOf hi1.1.1 hw.1 hgv rfl hr) (by first | assumption | rfl | decide | omega) (by first | assumption | rfl | decide | omega) (by decide) rfl (by first | decide | omega) (by exact Nat.le_of_ble_eq_true rfl) (fun u122 D122 g122 => ?_)
                  exact Z_reti dX8_build_125 (Or.inl rfl) (by
                    unfold m_build
                    rw [if_pos ⟨c50, c6, c15, c25, c35⟩, k50, if_neg n67, ka0, kb0, kc0, ke0]
                    have hi2 := scr_inv hi1.1 hw (g122.2.2.mono (fun _ _ q => q.scr))
                    exact ck2_s g122.1 hi2.1 (hi1.2.tr hi2.2))
                · exact absurd h80 (by decide)
              · skip
                have c67 := b2i_t.mp h67
                refine X_bipush (v := -3) (nx := 72) dX8_build_70 rfl rfl ?_
                refine X_goto (tgt := 76) dX8_build_72 rfl ?_
                refine X_istore (i := 7) (nx := 78) dX8_build_76 rfl (by decide) rfl (st_s (st_s (st_s (st_s (st_s (st_s (st_s (st_0)))))))) ?_
                refine X_iload (nx := 80) dX8_build_78 rfl rfl ?_
                refine X_if_eq (tgt := 90) (nx := 83) dX8_build_80 rfl rfl (fun h80 => ?_) (fun h80 => ?_)
                · exact absurd h80 (by decide)
                · skip
                  refine X_aload_n (nx := 84) dX8_build_83 rfl rfl rfl ?_
                  refine X_iload (nx := 86) dX8_build_84 rfl rfl ?_
                  refine Y_Vi1 (nx := 89) dX8_build_86 rfl ml_RX8_211 kj_X8_no kv_X8_no (by first | exact sp_X8_no (k := 1) rfl (by omega) (by omega) | exact sp_X8_no (k := 3) rfl (by omega) (by omega)) (by first | assumption | rfl | decide | omega) (by first | assumption | rfl | decide | omega) (by decide) rfl (by first | decide | omega) (by exact Nat.le_of_ble_eq_true rfl) ?_
                  exact Z_reti dX8_build_89 (Or.inl rfl) (by
                    unfold m_build
                    first
                    | (rw [if_neg (fun q => by first | exact n50 q.1 | exact n6 q.2.1 | exact n15 q.2.2.1 | exact n25 q.2.2.2.1 | exact n35 q.2.2.2.2)]; exact ck2_no (k := 1) h Fr.rf (by omega) (by omega))
                    | (rw [if_pos ⟨c50, c6, c15, c25, c35⟩, k50, if_pos c67]; exact ck2_no (k := 3) h Fr.rf (by omega) (by omega)))
            · exact absurd h55 (by decide)
