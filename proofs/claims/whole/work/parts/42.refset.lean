/-! THE REFERENCE: sets of routes, paths -/
theorem or_f {p : Nat → Bool} {i : Nat} (h : p i = false) : nI (mkn p i) ||| 0 = nI (mkn p (i + 1)) := by
  rw [← ior_skip h]
  exact (nI_or _ 0).trans (by rw [Nat.or_zero])
def soP (B : Bk) (T : Nat → Bool) (R : Nat) : Nat → Bool := fun r => T r && decide (ro_ B r = R)
def sbP (B : Bk) (w a e : Nat) : Nat → Bool := fun r => w.testBit r && (decide (a < (sg_ B r).length) && decide (typ ((sg_ B r).getD a 0) = e))
def svB (B : Bk) (v r : Nat) : Bool := !mtB B r && (srv (vb_ B r)).testBit v
def leP (B : Bk) (w dp v : Nat) : Nat → Bool := fun r => w.testBit r && (decide ((sg_ B r).length = dp) && svB B v r)
def lrP (B : Bk) (w dp v : Nat) : Nat → Bool := fun r => w.testBit r && (decide ((sg_ B r).length = dp + 1) && (rsB B r && svB B v r))
def mfP (B : Bk) (w dp : Nat) : Nat → Bool := fun r => w.testBit r && (decide ((sg_ B r).length = dp) && mtB B r)
theorem dX8_setOf_0 : decode cX8_setOf 0 = .ok (.iconst 0, 1) := by decide +kernel
theorem dX8_setOf_1 : decode cX8_setOf 1 = .ok (.istore_n 2, 1) := by decide +kernel
theorem dX8_setOf_2 : decode cX8_setOf 2 = .ok (.iconst 0, 1) := by decide +kernel
theorem dX8_setOf_3 : decode cX8_setOf 3 = .ok (.istore_n 3, 1) := by decide +kernel
theorem dX8_setOf_4 : decode cX8_setOf 4 = .ok (.iload_n 3, 1) := by decide +kernel
theorem dX8_setOf_5 : decode cX8_setOf 5 = .ok (.aload_n 0, 1) := by decide +kernel
theorem dX8_setOf_6 : decode cX8_setOf 6 = .ok (.getfield 109, 3) := by decide +kernel
theorem dX8_setOf_9 : decode cX8_setOf 9 = .ok (.if_icmp .ge 39, 3) := by decide +kernel
theorem dX8_setOf_12 : decode cX8_setOf 12 = .ok (.iload_n 2, 1) := by decide +kernel
theorem dX8_setOf_13 : decode cX8_setOf 13 = .ok (.aload_n 0, 1) := by decide +kernel
theorem dX8_setOf_14 : decode cX8_setOf 14 = .ok (.getfield 19, 3) := by decide +kernel
theorem dX8_setOf_17 : decode cX8_setOf 17 = .ok (.iload_n 3, 1) := by decide +kernel
theorem dX8_setOf_18 : decode cX8_setOf 18 = .ok (.iaload, 1) := by decide +kernel
theorem dX8_setOf_19 : decode cX8_setOf 19 = .ok (.iconst 1, 1) := by decide +kernel
theorem dX8_setOf_20 : decode cX8_setOf 20 = .ok (.if_icmp .ne 19, 3) := by decide +kernel
theorem dX8_setOf_23 : decode cX8_setOf 23 = .ok (.aload_n 0, 1) := by decide +kernel
theorem dX8_setOf_24 : decode cX8_setOf 24 = .ok (.getfield 22, 3) := by decide +kernel
theorem dX8_setOf_27 : decode cX8_setOf 27 = .ok (.iload_n 3, 1) := by decide +kernel
theorem dX8_setOf_28 : decode cX8_setOf 28 = .ok (.iaload, 1) := by decide +kernel
theorem dX8_setOf_29 : decode cX8_setOf 29 = .ok (.iload_n 1, 1) := by decide +kernel
theorem dX8_setOf_30 : decode cX8_setOf 30 = .ok (.if_icmp .ne 9, 3) := by decide +kernel
theorem dX8_setOf_33 : decode cX8_setOf 33 = .ok (.iconst 1, 1) := by decide +kernel
theorem dX8_setOf_34 : decode cX8_setOf 34 = .ok (.iload_n 3, 1) := by decide +kernel
theorem dX8_setOf_35 : decode cX8_setOf 35 = .ok (.ishl, 1) := by decide +kernel
theorem dX8_setOf_36 : decode cX8_setOf 36 = .ok (.goto 4, 3) := by decide +kernel
theorem dX8_setOf_39 : decode cX8_setOf 39 = .ok (.iconst 0, 1) := by decide +kernel
theorem dX8_setOf_40 : decode cX8_setOf 40 = .ok (.ior, 1) := by decide +kernel
theorem dX8_setOf_41 : decode cX8_setOf 41 = .ok (.istore_n 2, 1) := by decide +kernel
theorem dX8_setOf_42 : decode cX8_setOf 42 = .ok (.iinc 3 1, 3) := by decide +kernel
theorem dX8_setOf_45 : decode cX8_setOf 45 = .ok (.goto (-41), 3) := by decide +kernel
theorem dX8_setOf_48 : decode cX8_setOf 48 = .ok (.iload_n 2, 1) := by decide +kernel
theorem dX8_setOf_49 : decode cX8_setOf 49 = .ok (.ireturn, 1) := by decide +kernel
theorem lp_X8_setOf {R : Nat} {B : Bk} {T : Nat → Bool} {K F : Nat → Nat} {D : Mem} (h : RB D B T K F) (hV : VB B) (hR : R < 1000) : ∀ (m : Nat) (i : Nat), i + m = cm_ B → X 1 138 j_X8_setOf 4 [some (.ref 104), some (.int (nI R)), some (.int (nI (mkn (soP B T R) i))), some (.int (nI i))] [] (138, P0, D) (fun x σ => x = [.int (nI (mkn (soP B T R) (cm_ B)))] ∧ σ = wd D) := by
  intro m
  induction m with
  | zero =>
    intro i hi
    obtain ⟨hB1, hB2, hB3⟩ := id h
    have hcm := hV.2.1
    refine X_iload_n (nx := 5) dX8_setOf_4 rfl rfl rfl ?_
    refine X_aload_n (nx := 6) dX8_setOf_5 rfl rfl rfl ?_
    refine M_getI (nx := 9) dX8_setOf_6 rfl fl_RX8_109 rfl (by first | assumption | rfl | decide | omega) (by first | assumption | rfl | decide | omega) ?_
    refine X_top (hB2) ?_
    refine X_icmp_ge (tgt := 48) (nx := 12) dX8_setOf_9 rfl rfl (fun h9 => ?_) (fun h9 => ?_)
    · skip
      refine X_iload_n (nx := 49) dX8_setOf_48 rfl rfl rfl ?_
      exact Y_reti dX8_setOf_49 (Or.inl rfl) (by rw [show i = cm_ B by omega]) rfl
    · exact absurd h9 (fun q => q (nI_le (by omega) (by omega)))
  | succ m ih =>
    intro i hi
    obtain ⟨hB1, hB2, hB3⟩ := id h
    have hcm := hV.2.1
    have hro := (hV.2.2 i (by omega)).1
    refine X_iload_n (nx := 5) dX8_setOf_4 rfl rfl rfl ?_
    refine X_aload_n (nx := 6) dX8_setOf_5 rfl rfl rfl ?_
    refine M_getI (nx := 9) dX8_setOf_6 rfl fl_RX8_109 rfl (by first | assumption | rfl | decide | omega) (by first | assumption | rfl | decide | omega) ?_
    refine X_top (hB2) ?_
    refine X_icmp_ge (tgt := 48) (nx := 12) dX8_setOf_9 rfl rfl (fun h9 => ?_) (fun h9 => ?_)
    · exact absurd h9 (nI_ge (by omega) (by omega))
    · skip
      refine X_iload_n (nx := 13) dX8_setOf_12 rfl rfl rfl ?_
      refine X_aload_n (nx := 14) dX8_setOf_13 rfl rfl rfl ?_
      refine M_getP (nx := 17) dX8_setOf_14 rfl fl_RX8_19 rfl (by first | assumption | rfl | decide | omega) (by first | assumption | rfl | decide | omega) (by first | assumption | rfl | decide | omega) ?_
      refine X_iload_n (nx := 18) dX8_setOf_17 rfl rfl rfl ?_
      refine M_ld (a := 108) (L := 10) (nx := 19) dX8_setOf_18 rfl (by decide) (by decide) rfl (by decide) (by omega) ((hB3 i (by omega)).1) ?_
      refine X_iconst (v := 1) (nx := 20) dX8_setOf_19 rfl rfl ?_
      refine X_icmp_ne (tgt := 39) (nx := 23) dX8_setOf_20 rfl rfl (fun h20 => ?_) (fun h20 => ?_)
      · skip
        have hz : soP B T R i = false := by unfold soP; cases hT : T i; rfl; exact absurd (b2i_1.mpr hT) h20
        refine X_iconst (v := 0) (nx := 40) dX8_setOf_39 rfl rfl ?_
        refine X_ior (nx := 41) dX8_setOf_40 rfl ?_
        refine X_top (show _ = nI (mkn (soP B T R) (i + 1)) from (by first | exact ior_step hz (by omega) | exact or_f hz)) ?_
        refine X_istore_n (i := 2) (nx := 42) dX8_setOf_41 rfl rfl (by decide) rfl (st_s (st_s (st_0))) ?_
        refine X_iinc (nx := 45) dX8_setOf_42 rfl (by decide) rfl (by first | exact ii1 _ | rfl) rfl (st_s (st_s (st_s (st_0)))) ?_
        refine X_goto (tgt := 4) dX8_setOf_45 rfl ?_
        exact ih (i + 1) (by omega)
      · skip
        refine X_aload_n (nx := 24) dX8_setOf_23 rfl rfl rfl ?_
        refine M_getP (nx := 27) dX8_setOf_24 rfl fl_RX8_22 rfl (by first | assumption | rfl | decide | omega) (by first | assumption | rfl | decide | omega) (by first | assumption | rfl | decide | omega) ?_
        refine X_iload_n (nx := 28) dX8_setOf_27 rfl rfl rfl ?_
        refine M_ld (a := 109) (L := 10) (nx := 29) dX8_setOf_28 rfl (by decide) (by decide) rfl (by decide) (by omega) ((hB3 i (by omega)).2.1) ?_
        refine X_iload_n (nx := 30) dX8_setOf_29 rfl rfl rfl ?_
        refine X_icmp_ne (tgt := 39) (nx := 33) dX8_setOf_30 rfl rfl (fun h30 => ?_) (fun h30 => ?_)
        · skip
          rw [nI_eq (by omega) (by omega)] at h30
          have hz : soP B T R i = false := by unfold soP; rw [decide_eq_false h30, Bool.and_false]
          refine X_iconst (v := 0) (nx := 40) dX8_setOf_39 rfl rfl ?_
          refine X_ior (nx := 41) dX8_setOf_40 rfl ?_
          refine X_top (show _ = nI (mkn (soP B T R) (i + 1)) from (by first | exact ior_step hz (by omega) | exact or_f hz)) ?_
          refine X_istore_n (i := 2) (nx := 42) dX8_setOf_41 rfl rfl (by decide) rfl (st_s (st_s (st_0))) ?_
          refine X_iinc (nx := 45) dX8_setOf_42 rfl (by decide) rfl (by first | exact ii1 _ | rfl) rfl (st_s (st_s (st_s (st_0)))) ?_
          refine X_goto (tgt := 4) dX8_setOf_45 rfl ?_
          exact ih (i + 1) (by omega)
        · skip
          rw [nI_eq (by omega) (by omega)] at h30
          have hz : soP B T R i = true := by unfold soP; rw [decide_eq_true h30, b2i_1.mp h20]; rfl
          refine X_iconst (v := 1) (nx := 34) dX8_setOf_33 rfl rfl ?_
          refine X_iload_n (nx := 35) dX8_setOf_34 rfl rfl rfl ?_
          refine X_ishl (nx := 36) dX8_setOf_35 rfl ?_
          refine X_goto (tgt := 40) dX8_setOf_36 rfl ?_
          refine X_ior (nx := 41) dX8_setOf_40 rfl ?_
          refine X_top (show _ = nI (mkn (soP B T R) (i + 1)) from (by first | exact ior_step hz (by omega) | exact or_f hz)) ?_
          refine X_istore_n (i := 2) (nx := 42) dX8_setOf_41 rfl rfl (by decide) rfl (st_s (st_s (st_0))) ?_
          refine X_iinc (nx := 45) dX8_setOf_42 rfl (by decide) rfl (by first | exact ii1 _ | rfl) rfl (st_s (st_s (st_s (st_0)))) ?_
          refine X_goto (tgt := 4) dX8_setOf_45 rfl ?_
          exact ih (i + 1) (by omega)
theorem sp_X8_setOf {R : Nat} {x : Int32} {B : Bk} {T : Nat → Bool} {K F : Nat → Nat} {D : Mem} (h : RB D B T K F) (hV : VB B) (hx : x = nI R) (hR : R < 1000) : Ei 1 j_X8_setOf [.ref 104, .int x] D (nI (mkn (soP B T R) (cm_ B))) (D) := by
  refine E.start 2 (ls := [some (.ref 104), some (.int x), none, none]) (by decide +kernel) (Nat.le_of_ble_eq_true rfl) rfl (Nat.le_refl _) (Nat.le_refl _) ?_
  subst hx
  refine X_iconst (v := 0) (nx := 1) dX8_setOf_0 rfl rfl ?_
  refine X_istore_n (i := 2) (nx := 2) dX8_setOf_1 rfl rfl (by decide) rfl (st_s (st_s (st_0))) ?_
  refine X_iconst (v := nI 0) (nx := 3) dX8_setOf_2 rfl rfl ?_
  refine X_istore_n (i := 3) (nx := 4) dX8_setOf_3 rfl rfl (by decide) rfl (st_s (st_s (st_s (st_0)))) ?_
  exact lp_X8_setOf h hV hR (cm_ B) 0 (Nat.zero_add _)
theorem dX8_setBy_0 : decode cX8_setBy 0 = .ok (.iconst 0, 1) := by decide +kernel
theorem dX8_setBy_1 : decode cX8_setBy 1 = .ok (.istore 4, 2) := by decide +kernel
theorem dX8_setBy_3 : decode cX8_setBy 3 = .ok (.iconst 0, 1) := by decide +kernel
theorem dX8_setBy_4 : decode cX8_setBy 4 = .ok (.istore 5, 2) := by decide +kernel
theorem dX8_setBy_6 : decode cX8_setBy 6 = .ok (.iload 5, 2) := by decide +kernel
theorem dX8_setBy_8 : decode cX8_setBy 8 = .ok (.aload_n 0, 1) := by decide +kernel
theorem dX8_setBy_9 : decode cX8_setBy 9 = .ok (.getfield 109, 3) := by decide +kernel
theorem dX8_setBy_12 : decode cX8_setBy 12 = .ok (.if_icmp .ge 53, 3) := by decide +kernel
theorem dX8_setBy_15 : decode cX8_setBy 15 = .ok (.iload 4, 2) := by decide +kernel
theorem dX8_setBy_17 : decode cX8_setBy 17 = .ok (.iload_n 1, 1) := by decide +kernel
theorem dX8_setBy_18 : decode cX8_setBy 18 = .ok (.iload 5, 2) := by decide +kernel
theorem dX8_setBy_20 : decode cX8_setBy 20 = .ok (.invokestatic 123, 3) := by decide +kernel
theorem dX8_setBy_23 : decode cX8_setBy 23 = .ok (.ifCond .eq 32, 3) := by decide +kernel
theorem dX8_setBy_26 : decode cX8_setBy 26 = .ok (.aload_n 0, 1) := by decide +kernel
theorem dX8_setBy_27 : decode cX8_setBy 27 = .ok (.getfield 31, 3) := by decide +kernel
theorem dX8_setBy_30 : decode cX8_setBy 30 = .ok (.iload 5, 2) := by decide +kernel
theorem dX8_setBy_32 : decode cX8_setBy 32 = .ok (.iaload, 1) := by decide +kernel
theorem dX8_setBy_33 : decode cX8_setBy 33 = .ok (.iload_n 2, 1) := by decide +kernel
theorem dX8_setBy_34 : decode cX8_setBy 34 = .ok (.if_icmp .le 21, 3) := by decide +kernel
theorem dX8_setBy_37 : decode cX8_setBy 37 = .ok (.aload_n 0, 1) := by decide +kernel
theorem dX8_setBy_38 : decode cX8_setBy 38 = .ok (.iload 5, 2) := by decide +kernel
theorem dX8_setBy_40 : decode cX8_setBy 40 = .ok (.iload_n 2, 1) := by decide +kernel
theorem dX8_setBy_41 : decode cX8_setBy 41 = .ok (.invokevirtual 119, 3) := by decide +kernel
theorem dX8_setBy_44 : decode cX8_setBy 44 = .ok (.iload_n 3, 1) := by decide +kernel
theorem dX8_setBy_45 : decode cX8_setBy 45 = .ok (.if_icmp .ne 10, 3) := by decide +kernel
theorem dX8_setBy_48 : decode cX8_setBy 48 = .ok (.iconst 1, 1) := by decide +kernel
theorem dX8_setBy_49 : decode cX8_setBy 49 = .ok (.iload 5, 2) := by decide +kernel
theorem dX8_setBy_51 : decode cX8_setBy 51 = .ok (.ishl, 1) := by decide +kernel
theorem dX8_setBy_52 : decode cX8_setBy 52 = .ok (.goto 4, 3) := by decide +kernel
theorem dX8_setBy_55 : decode cX8_setBy 55 = .ok (.iconst 0, 1) := by decide +kernel
theorem dX8_setBy_56 : decode cX8_setBy 56 = .ok (.ior, 1) := by decide +kernel
theorem dX8_setBy_57 : decode cX8_setBy 57 = .ok (.istore 4, 2) := by decide +kernel
theorem dX8_setBy_59 : decode cX8_setBy 59 = .ok (.iinc 5 1, 3) := by decide +kernel
theorem dX8_setBy_62 : decode cX8_setBy 62 = .ok (.goto (-56), 3) := by decide +kernel
theorem dX8_setBy_65 : decode cX8_setBy 65 = .ok (.iload 4, 2) := by decide +kernel
theorem dX8_setBy_67 : decode cX8_setBy 67 = .ok (.ireturn, 1) := by decide +kernel
theorem lp_X8_setBy {w a e : Nat} {B : Bk} {T : Nat → Bool} {K F : Nat → Nat} {D : Mem} (h : RB D B T K F) (hV : VB B) (hw : w < 1024) (ha : a < 1000) (he : e < 1000) : ∀ (m : Nat) (i : Nat), i + m = cm_ B → X 2 138 j_X8_setBy 6 [some (.ref 104), some (.int (nI w)), some (.int (nI a)), some (.int (nI e)), some (.int (nI (mkn (sbP B w a e) i))), some (.int (nI i))] [] (138, P0, D) (fun x σ => x = [.int (nI (mkn (sbP B w a e) (cm_ B)))] ∧ σ = wd D) := by
  intro m
  induction m with
  | zero =>
    intro i hi
    obtain ⟨hB1, hB2, hB3⟩ := id h
    have hcm := hV.2.1
    refine X_iload (nx := 8) dX8_setBy_6 rfl rfl ?_
    refine X_aload_n (nx := 9) dX8_setBy_8 rfl rfl rfl ?_
    refine M_getI (nx := 12) dX8_setBy_9 rfl fl_RX8_109 rfl (by first | assumption | rfl | decide | omega) (by first | assumption | rfl | decide | omega) ?_
    refine X_top (hB2) ?_
    refine X_icmp_ge (tgt := 65) (nx := 15) dX8_setBy_12 rfl rfl (fun h12 => ?_) (fun h12 => ?_)
    · skip
      refine X_iload (nx := 67) dX8_setBy_65 rfl rfl ?_
      exact Y_reti dX8_setBy_67 (Or.inl rfl) (by rw [show i = cm_ B by omega]) rfl
    · exact absurd h12 (fun q => q (nI_le (by omega) (by omega)))
  | succ m ih =>
    intro i hi
    obtain ⟨hB1, hB2, hB3⟩ := id h
    have hcm := hV.2.1
    have hic : i < cm_ B := by omega
    have hl4 := sgl_le hV hic
    refine X_iload (nx := 8) dX8_setBy_6 rfl rfl ?_
    refine X_aload_n (nx := 9) dX8_setBy_8 rfl rfl rfl ?_
    refine M_getI (nx := 12) dX8_setBy_9 rfl fl_RX8_109 rfl (by first | assumption | rfl | decide | omega) (by first | assumption | rfl | decide | omega) ?_
    refine X_top (hB2) ?_
    refine X_icmp_ge (tgt := 65) (nx := 15) dX8_setBy_12 rfl rfl (fun h12 => ?_) (fun h12 => ?_)
    · exact absurd h12 (nI_ge (by omega) (by omega))
    · skip
      refine X_iload (nx := 17) dX8_setBy_15 rfl rfl ?_
      refine X_iload_n (nx := 18) dX8_setBy_17 rfl rfl rfl ?_
      refine X_iload (nx := 20) dX8_setBy_18 rfl rfl ?_
      refine Y_Si2 (nx := 23) dX8_setBy_20 rfl ml_RX8_123 kj_X8_has ks_X8_has (sp_X8_has rfl (by omega) rfl (by omega)) (by first | decide | omega) (by exact Nat.le_of_ble_eq_true rfl) ?_
      refine X_if_eq (tgt := 55) (nx := 26) dX8_setBy_23 rfl rfl (fun h23 => ?_) (fun h23 => ?_)
      · skip
        have hz : sbP B w a e i = false := by unfold sbP; rw [b2i_f.mp h23]; rfl
        refine X_iconst (v := 0) (nx := 56) dX8_setBy_55 rfl rfl ?_
        refine X_ior (nx := 57) dX8_setBy_56 rfl ?_
        refine X_top (show _ = nI (mkn (sbP B w a e) (i + 1)) from (by first | exact ior_step hz (by omega) | exact or_f hz)) ?_
        refine X_istore (i := 4) (nx := 59) dX8_setBy_57 rfl (by decide) rfl (st_s (st_s (st_s (st_s (st_0))))) ?_
        refine X_iinc (nx := 62) dX8_setBy_59 rfl (by decide) rfl (by first | exact ii1 _ | rfl) rfl (st_s (st_s (st_s (st_s (st_s (st_0)))))) ?_
        refine X_goto (tgt := 6) dX8_setBy_62 rfl ?_
        exact ih (i + 1) (by omega)
      · skip
        have h23 := b2i_t.mp h23
        refine X_aload_n (nx := 27) dX8_setBy_26 rfl rfl rfl ?_
        refine M_getP (nx := 30) dX8_setBy_27 rfl fl_RX8_31 rfl (by first | assumption | rfl | decide | omega) (by first | assumption | rfl | decide | omega) (by first | assumption | rfl | decide | omega) ?_
        refine X_iload (nx := 32) dX8_setBy_30 rfl rfl ?_
        refine M_ld (a := 112) (L := 10) (nx := 33) dX8_setBy_32 rfl (by decide) (by decide) rfl (by decide) (by omega) ((hB3 i (by omega)).2.2.2.2.1) ?_
        refine X_iload_n (nx := 34) dX8_setBy_33 rfl rfl rfl ?_
        refine X_icmp_le (tgt := 55) (nx := 37) dX8_setBy_34 rfl rfl (fun h34 => ?_) (fun h34 => ?_)
        · skip
          rw [nI_leI (by omega) (by omega)] at h34
          have hz : sbP B w a e i = false := by unfold sbP; rw [decide_eq_false (by omega : ¬ a < (sg_ B i).length)]; simp
          refine X_iconst (v := 0) (nx := 56) dX8_setBy_55 rfl rfl ?_
          refine X_ior (nx := 57) dX8_setBy_56 rfl ?_
          refine X_top (show _ = nI (mkn (sbP B w a e) (i + 1)) from (by first | exact ior_step hz (by omega) | exact or_f hz)) ?_
          refine X_istore (i := 4) (nx := 59) dX8_setBy_57 rfl (by decide) rfl (st_s (st_s (st_s (st_s (st_0))))) ?_
          refine X_iinc (nx := 62) dX8_setBy_59 rfl (by decide) rfl (by first | exact ii1 _ | rfl) rfl (st_s (st_s (st_s (st_s (st_s (st_0)))))) ?_
          refine X_goto (tgt := 6) dX8_setBy_62 rfl ?_
          exact ih (i + 1) (by omega)
        · skip
          rw [nI_leI (by omega) (by omega)] at h34
          have h34 : a < (sg_ B i).length := by omega
          have ht := typ_lt (sg_le hV hic h34)
          refine X_aload_n (nx := 38) dX8_setBy_37 rfl rfl rfl ?_
          refine X_iload (nx := 40) dX8_setBy_38 rfl rfl ?_
          refine X_iload_n (nx := 41) dX8_setBy_40 rfl rfl rfl ?_
          refine Y_Vi2 (nx := 44) dX8_setBy_41 rfl ml_RX8_119 kj_X8_typeOf kv_X8_typeOf (sp_X8_typeOf h hV rfl hic rfl h34) (by first | assumption | rfl | decide | omega) (by first | assumption | rfl | decide | omega) (by decide) rfl (by first | decide | omega) (by exact Nat.le_of_ble_eq_true rfl) ?_
          refine X_iload_n (nx := 45) dX8_setBy_44 rfl rfl rfl ?_
          refine X_icmp_ne (tgt := 55) (nx := 48) dX8_setBy_45 rfl rfl (fun h45 => ?_) (fun h45 => ?_)
          · skip
            rw [nI_eq (by omega) (by omega)] at h45
            have hz : sbP B w a e i = false := by unfold sbP; rw [decide_eq_false h45]; simp
            refine X_iconst (v := 0) (nx := 56) dX8_setBy_55 rfl rfl ?_
            refine X_ior (nx := 57) dX8_setBy_56 rfl ?_
            refine X_top (show _ = nI (mkn (sbP B w a e) (i + 1)) from (by first | exact ior_step hz (by omega) | exact or_f hz)) ?_
            refine X_istore (i := 4) (nx := 59) dX8_setBy_57 rfl (by decide) rfl (st_s (st_s (st_s (st_s (st_0))))) ?_
            refine X_iinc (nx := 62) dX8_setBy_59 rfl (by decide) rfl (by first | exact ii1 _ | rfl) rfl (st_s (st_s (st_s (st_s (st_s (st_0)))))) ?_
            refine X_goto (tgt := 6) dX8_setBy_62 rfl ?_
            exact ih (i + 1) (by omega)
          · skip
            rw [nI_eq (by omega) (by omega)] at h45
            have hz : sbP B w a e i = true := by unfold sbP; rw [decide_eq_true h45, decide_eq_true h34, h23]; rfl
            refine X_iconst (v := 1) (nx := 49) dX8_setBy_48 rfl rfl ?_
            refine X_iload (nx := 51) dX8_setBy_49 rfl rfl ?_
            refine X_ishl (nx := 52) dX8_setBy_51 rfl ?_
            refine X_goto (tgt := 56) dX8_setBy_52 rfl ?_
            refine X_ior (nx := 57) dX8_setBy_56 rfl ?_
            refine X_top (show _ = nI (mkn (sbP B w a e) (i + 1)) from (by first | exact ior_step hz (by omega) | exact or_f hz)) ?_
            refine X_istore (i := 4) (nx := 59) dX8_setBy_57 rfl (by decide) rfl (st_s (st_s (st_s (st_s (st_0))))) ?_
            refine X_iinc (nx := 62) dX8_setBy_59 rfl (by decide) rfl (by first | exact ii1 _ | rfl) rfl (st_s (st_s (st_s (st_s (st_s (st_0)))))) ?_
            refine X_goto (tgt := 6) dX8_setBy_62 rfl ?_
            exact ih (i + 1) (by omega)
theorem sp_X8_setBy {w a e : Nat} {x y z : Int32} {B : Bk} {T : Nat → Bool} {K F : Nat → Nat} {D : Mem} (h : RB D B T K F) (hV : VB B) (hx : x = nI w) (hw : w < 1024) (hy : y = nI a) (ha : a < 1000) (hz : z = nI e) (he : e < 1000) : Ei 2 j_X8_setBy [.ref 104, .int x, .int y, .int z] D (nI (mkn (sbP B w a e) (cm_ B))) (D) := by
  refine E.start 2 (ls := [some (.ref 104), some (.int x), some (.int y), some (.int z), none, none]) (by decide +kernel) (Nat.le_of_ble_eq_true rfl) rfl (Nat.le_refl _) (Nat.le_refl _) ?_
  subst hx; subst hy; subst hz
  refine X_iconst (v := 0) (nx := 1) dX8_setBy_0 rfl rfl ?_
  refine X_istore (i := 4) (nx := 3) dX8_setBy_1 rfl (by decide) rfl (st_s (st_s (st_s (st_s (st_0))))) ?_
  refine X_iconst (v := nI 0) (nx := 4) dX8_setBy_3 rfl rfl ?_
  refine X_istore (i := 5) (nx := 6) dX8_setBy_4 rfl (by decide) rfl (st_s (st_s (st_s (st_s (st_s (st_0)))))) ?_
  exact lp_X8_setBy h hV hw ha he (cm_ B) 0 (Nat.zero_add _)
theorem srvI : ∀ v, v < 4 → ([3, 2, 4, 15] : List Int32).getD v 0 = nI (srvm v) := by decide
theorem dX8_serves_0 : decode cX8_serves 0 = .ok (.aload_n 0, 1) := by decide +kernel
theorem dX8_serves_1 : decode cX8_serves 1 = .ok (.iload_n 1, 1) := by decide +kernel
theorem dX8_serves_2 : decode cX8_serves 2 = .ok (.invokevirtual 127, 3) := by decide +kernel
theorem dX8_serves_5 : decode cX8_serves 5 = .ok (.ifCond .ne 24, 3) := by decide +kernel
theorem dX8_serves_8 : decode cX8_serves 8 = .ok (.getstatic 131, 3) := by decide +kernel
theorem dX8_serves_11 : decode cX8_serves 11 = .ok (.aload_n 0, 1) := by decide +kernel
theorem dX8_serves_12 : decode cX8_serves 12 = .ok (.getfield 25, 3) := by decide +kernel
theorem dX8_serves_15 : decode cX8_serves 15 = .ok (.iload_n 1, 1) := by decide +kernel
theorem dX8_serves_16 : decode cX8_serves 16 = .ok (.iaload, 1) := by decide +kernel
theorem dX8_serves_17 : decode cX8_serves 17 = .ok (.iaload, 1) := by decide +kernel
theorem dX8_serves_18 : decode cX8_serves 18 = .ok (.iload_n 2, 1) := by decide +kernel
theorem dX8_serves_19 : decode cX8_serves 19 = .ok (.invokestatic 123, 3) := by decide +kernel
theorem dX8_serves_22 : decode cX8_serves 22 = .ok (.ifCond .eq 7, 3) := by decide +kernel
theorem dX8_serves_25 : decode cX8_serves 25 = .ok (.iconst 1, 1) := by decide +kernel
theorem dX8_serves_26 : decode cX8_serves 26 = .ok (.goto 4, 3) := by decide +kernel
theorem dX8_serves_29 : decode cX8_serves 29 = .ok (.iconst 0, 1) := by decide +kernel
theorem dX8_serves_30 : decode cX8_serves 30 = .ok (.ireturn, 1) := by decide +kernel
theorem sp_X8_serves {r v : Nat} {x y : Int32} {B : Bk} {T : Nat → Bool} {K F : Nat → Nat} {D : Mem} (h : RB D B T K F) (hV : VB B) (hx : x = nI r) (hr : r < cm_ B) (hy : y = nI v) (hv : v < 4) : Ei 2 j_X8_serves [.ref 104, .int x, .int y] D (b2i (svB B v r)) (D) := by
  refine E.start 0 (ls := [some (.ref 104), some (.int x), some (.int y)]) (by decide +kernel) (Nat.le_of_ble_eq_true rfl) rfl (Nat.le_refl _) (Nat.le_refl _) ?_
  subst hx; subst hy
  obtain ⟨hB1, hB2, hB3⟩ := id h
  have hcm := hV.2.1
  refine X_aload_n (nx := 1) dX8_serves_0 rfl rfl rfl ?_
  refine X_iload_n (nx := 2) dX8_serves_1 rfl rfl rfl ?_
  refine Y_Vi1 (nx := 5) dX8_serves_2 rfl ml_RX8_127 kj_X8_isMount kv_X8_isMount (sp_X8_isMount h hV rfl hr) (by first | assumption | rfl | decide | omega) (by first | assumption | rfl | decide | omega) (by decide) rfl (by first | decide | omega) (by exact Nat.le_of_ble_eq_true rfl) ?_
  refine X_if_ne (tgt := 29) (nx := 8) dX8_serves_5 rfl rfl (fun h5 => ?_) (fun h5 => ?_)
  · skip
    have hm := b2i_t.mp h5
    refine X_iconst (v := 0) (nx := 30) dX8_serves_29 rfl rfl ?_
    exact Y_reti dX8_serves_30 (Or.inr ⟨rfl, by first | exact Or.inl rfl | exact Or.inr rfl | exact b2i_01 _ | assumption⟩) (by unfold svB; first | (rw [hm]; rfl) | (rw [hm, hsr, b2i_t.mp h22]; rfl) | (rw [hm, hsr, b2i_f.mp h22]; rfl)) rfl
  · skip
    have hm := b2i_f.mp h5
    obtain ⟨hm9, u, hu, hvb⟩ := (hV.2.2 r hr).endv hm
    have hsr : srv (vb_ B r) = srvm u := by rw [hvb]; exact srv_n u hu
    refine X_gs_srv (nx := 11) dX8_serves_8 rfl gs_RX8_131 ?_
    refine X_aload_n (nx := 12) dX8_serves_11 rfl rfl rfl ?_
    refine M_getP (nx := 15) dX8_serves_12 rfl fl_RX8_25 rfl (by first | assumption | rfl | decide | omega) (by first | assumption | rfl | decide | omega) (by first | assumption | rfl | decide | omega) ?_
    refine X_iload_n (nx := 16) dX8_serves_15 rfl rfl rfl ?_
    refine M_ld (a := 110) (L := 10) (nx := 17) dX8_serves_16 rfl (by decide) (by decide) rfl (by decide) (by omega) ((hB3 r hr).2.2.1.trans hvb) ?_
    refine M_sld (a := 2002) (n := 4) (nx := 18) dX8_serves_17 rfl (fun _ _ => rfl) (by omega) (srvI u hu) ?_
    refine X_iload_n (nx := 19) dX8_serves_18 rfl rfl rfl ?_
    refine Y_Si2 (nx := 22) dX8_serves_19 rfl ml_RX8_123 kj_X8_has ks_X8_has (sp_X8_has rfl (by have := srvm_lt u hu; omega) rfl (by omega)) (by first | decide | omega) (by exact Nat.le_of_ble_eq_true rfl) ?_
    refine X_if_eq (tgt := 29) (nx := 25) dX8_serves_22 rfl rfl (fun h22 => ?_) (fun h22 => ?_)
    · skip
      refine X_iconst (v := 0) (nx := 30) dX8_serves_29 rfl rfl ?_
      exact Y_reti dX8_serves_30 (Or.inr ⟨rfl, by first | exact Or.inl rfl | exact Or.inr rfl | exact b2i_01 _ | assumption⟩) (by unfold svB; first | (rw [hm]; rfl) | (rw [hm, hsr, b2i_t.mp h22]; rfl) | (rw [hm, hsr, b2i_f.mp h22]; rfl)) rfl
    · skip
      refine X_iconst (v := 1) (nx := 26) dX8_serves_25 rfl rfl ?_
      refine X_goto (tgt := 30) dX8_serves_26 rfl ?_
      exact Y_reti dX8_serves_30 (Or.inr ⟨rfl, by first | exact Or.inl rfl | exact Or.inr rfl | exact b2i_01 _ | assumption⟩) (by unfold svB; first | (rw [hm]; rfl) | (rw [hm, hsr, b2i_t.mp h22]; rfl) | (rw [hm, hsr, b2i_f.mp h22]; rfl)) rfl
theorem dX8_leastEnd_0 : decode cX8_leastEnd 0 = .ok (.iconst 0, 1) := by decide +kernel
theorem dX8_leastEnd_1 : decode cX8_leastEnd 1 = .ok (.istore_n 3, 1) := by decide +kernel
theorem dX8_leastEnd_2 : decode cX8_leastEnd 2 = .ok (.iload_n 3, 1) := by decide +kernel
theorem dX8_leastEnd_3 : decode cX8_leastEnd 3 = .ok (.aload_n 0, 1) := by decide +kernel
theorem dX8_leastEnd_4 : decode cX8_leastEnd 4 = .ok (.getfield 109, 3) := by decide +kernel
theorem dX8_leastEnd_7 : decode cX8_leastEnd 7 = .ok (.if_icmp .ge 41, 3) := by decide +kernel
theorem dX8_leastEnd_10 : decode cX8_leastEnd 10 = .ok (.iload_n 1, 1) := by decide +kernel
theorem dX8_leastEnd_11 : decode cX8_leastEnd 11 = .ok (.iload_n 3, 1) := by decide +kernel
theorem dX8_leastEnd_12 : decode cX8_leastEnd 12 = .ok (.invokestatic 123, 3) := by decide +kernel
theorem dX8_leastEnd_15 : decode cX8_leastEnd 15 = .ok (.ifCond .eq 27, 3) := by decide +kernel
theorem dX8_leastEnd_18 : decode cX8_leastEnd 18 = .ok (.aload_n 0, 1) := by decide +kernel
theorem dX8_leastEnd_19 : decode cX8_leastEnd 19 = .ok (.getfield 31, 3) := by decide +kernel
theorem dX8_leastEnd_22 : decode cX8_leastEnd 22 = .ok (.iload_n 3, 1) := by decide +kernel
theorem dX8_leastEnd_23 : decode cX8_leastEnd 23 = .ok (.iaload, 1) := by decide +kernel
theorem dX8_leastEnd_24 : decode cX8_leastEnd 24 = .ok (.iload_n 2, 1) := by decide +kernel
theorem dX8_leastEnd_25 : decode cX8_leastEnd 25 = .ok (.if_icmp .ne 17, 3) := by decide +kernel
theorem dX8_leastEnd_28 : decode cX8_leastEnd 28 = .ok (.aload_n 0, 1) := by decide +kernel
theorem dX8_leastEnd_29 : decode cX8_leastEnd 29 = .ok (.iload_n 3, 1) := by decide +kernel
theorem dX8_leastEnd_30 : decode cX8_leastEnd 30 = .ok (.aload_n 0, 1) := by decide +kernel
theorem dX8_leastEnd_31 : decode cX8_leastEnd 31 = .ok (.getfield 143, 3) := by decide +kernel
theorem dX8_leastEnd_34 : decode cX8_leastEnd 34 = .ok (.invokevirtual 146, 3) := by decide +kernel
theorem dX8_leastEnd_37 : decode cX8_leastEnd 37 = .ok (.ifCond .eq 5, 3) := by decide +kernel
theorem dX8_leastEnd_40 : decode cX8_leastEnd 40 = .ok (.iload_n 3, 1) := by decide +kernel
theorem dX8_leastEnd_41 : decode cX8_leastEnd 41 = .ok (.ireturn, 1) := by decide +kernel
theorem dX8_leastEnd_42 : decode cX8_leastEnd 42 = .ok (.iinc 3 1, 3) := by decide +kernel
theorem dX8_leastEnd_45 : decode cX8_leastEnd 45 = .ok (.goto (-43), 3) := by decide +kernel
theorem dX8_leastEnd_48 : decode cX8_leastEnd 48 = .ok (.bipush (-9), 2) := by decide +kernel
theorem dX8_leastEnd_50 : decode cX8_leastEnd 50 = .ok (.ireturn, 1) := by decide +kernel
theorem lp_X8_leastEnd {w dp v : Nat} {B : Bk} {T : Nat → Bool} {K F : Nat → Nat} {D : Mem} (h : RB D B T K F) (hV : VB B) (hva : D 104 24 = nI v) (hv : v < 4) (hw : w < 1024) (hd : dp < 1000) : ∀ (m : Nat) (i : Nat), i + m = cm_ B → X 3 138 j_X8_leastEnd 2 [some (.ref 104), some (.int (nI w)), some (.int (nI dp)), some (.int (nI i))] [] (138, P0, D) (fun x σ => x = [.int (opI (fst_ (leP B w dp v) i m))] ∧ σ = wd D) := by
  intro m
  induction m with
  | zero =>
    intro i hi
    obtain ⟨hB1, hB2, hB3⟩ := id h
    have hcm := hV.2.1
    refine X_iload_n (nx := 3) dX8_leastEnd_2 rfl rfl rfl ?_
    refine X_aload_n (nx := 4) dX8_leastEnd_3 rfl rfl rfl ?_
    refine M_getI (nx := 7) dX8_leastEnd_4 rfl fl_RX8_109 rfl (by first | assumption | rfl | decide | omega) (by first | assumption | rfl | decide | omega) ?_
    refine X_top (hB2) ?_
    refine X_icmp_ge (tgt := 48) (nx := 10) dX8_leastEnd_7 rfl rfl (fun h7 => ?_) (fun h7 => ?_)
    · skip
      refine X_bipush (v := -9) (nx := 50) dX8_leastEnd_48 rfl rfl ?_
      exact Y_reti dX8_leastEnd_50 (Or.inl rfl) rfl rfl
    · exact absurd h7 (fun q => q (nI_le (by omega) (by omega)))
  | succ m ih =>
    intro i hi
    obtain ⟨hB1, hB2, hB3⟩ := id h
    have hcm := hV.2.1
    have hic : i < cm_ B := by omega
    have hl4 := sgl_le hV hic
    refine X_iload_n (nx := 3) dX8_leastEnd_2 rfl rfl rfl ?_
    refine X_aload_n (nx := 4) dX8_leastEnd_3 rfl rfl rfl ?_
    refine M_getI (nx := 7) dX8_leastEnd_4 rfl fl_RX8_109 rfl (by first | assumption | rfl | decide | omega) (by first | assumption | rfl | decide | omega) ?_
    refine X_top (hB2) ?_
    refine X_icmp_ge (tgt := 48) (nx := 10) dX8_leastEnd_7 rfl rfl (fun h7 => ?_) (fun h7 => ?_)
    · exact absurd h7 (nI_ge (by omega) (by omega))
    · skip
      refine X_iload_n (nx := 11) dX8_leastEnd_10 rfl rfl rfl ?_
      refine X_iload_n (nx := 12) dX8_leastEnd_11 rfl rfl rfl ?_
      refine Y_Si2 (nx := 15) dX8_leastEnd_12 rfl ml_RX8_123 kj_X8_has ks_X8_has (sp_X8_has rfl (by omega) rfl (by omega)) (by first | decide | omega) (by exact Nat.le_of_ble_eq_true rfl) ?_
      refine X_if_eq (tgt := 42) (nx := 18) dX8_leastEnd_15 rfl rfl (fun h15 => ?_) (fun h15 => ?_)
      · skip
        have hz : leP B w dp v i = false := by unfold leP; rw [b2i_f.mp h15]; rfl
        rw [fst_step hz]
        refine X_iinc (nx := 45) dX8_leastEnd_42 rfl (by decide) rfl (by first | exact ii1 _ | rfl) rfl (st_s (st_s (st_s (st_0)))) ?_
        refine X_goto (tgt := 2) dX8_leastEnd_45 rfl ?_
        exact ih (i + 1) (by omega)
      · skip
        refine X_aload_n (nx := 19) dX8_leastEnd_18 rfl rfl rfl ?_
        refine M_getP (nx := 22) dX8_leastEnd_19 rfl fl_RX8_31 rfl (by first | assumption | rfl | decide | omega) (by first | assumption | rfl | decide | omega) (by first | assumption | rfl | decide | omega) ?_
        refine X_iload_n (nx := 23) dX8_leastEnd_22 rfl rfl rfl ?_
        refine M_ld (a := 112) (L := 10) (nx := 24) dX8_leastEnd_23 rfl (by decide) (by decide) rfl (by decide) (by omega) ((hB3 i (by omega)).2.2.2.2.1) ?_
        refine X_iload_n (nx := 25) dX8_leastEnd_24 rfl rfl rfl ?_
        refine X_icmp_ne (tgt := 42) (nx := 28) dX8_leastEnd_25 rfl rfl (fun h25 => ?_) (fun h25 => ?_)
        · skip
          rw [nI_eq (by omega) (by omega)] at h25
          have hz : leP B w dp v i = false := by unfold leP; rw [decide_eq_false h25]; simp
          rw [fst_step hz]
          refine X_iinc (nx := 45) dX8_leastEnd_42 rfl (by decide) rfl (by first | exact ii1 _ | rfl) rfl (st_s (st_s (st_s (st_0)))) ?_
          refine X_goto (tgt := 2) dX8_leastEnd_45 rfl ?_
          exact ih (i + 1) (by omega)
        · skip
          rw [nI_eq (by omega) (by omega)] at h25
          refine X_aload_n (nx := 29) dX8_leastEnd_28 rfl rfl rfl ?_
          refine X_iload_n (nx := 30) dX8_leastEnd_29 rfl rfl rfl ?_
          refine X_aload_n (nx := 31) dX8_leastEnd_30 rfl rfl rfl ?_
          refine M_getI (nx := 34) dX8_leastEnd_31 rfl fl_RX8_143 rfl (by first | assumption | rfl | decide | omega) (by first | assumption | rfl | decide | omega) ?_
          refine X_top (hva) ?_
          refine Y_Vi2 (nx := 37) dX8_leastEnd_34 rfl ml_RX8_146 kj_X8_serves kv_X8_serves (sp_X8_serves h hV rfl hic rfl hv) (by first | assumption | rfl | decide | omega) (by first | assumption | rfl | decide | omega) (by decide) rfl (by first | decide | omega) (by exact Nat.le_of_ble_eq_true rfl) ?_
          refine X_if_eq (tgt := 42) (nx := 40) dX8_leastEnd_37 rfl rfl (fun h37 => ?_) (fun h37 => ?_)
          · skip
            have hz : leP B w dp v i = false := by unfold leP; rw [b2i_f.mp h37]; simp
            rw [fst_step hz]
            refine X_iinc (nx := 45) dX8_leastEnd_42 rfl (by decide) rfl (by first | exact ii1 _ | rfl) rfl (st_s (st_s (st_s (st_0)))) ?_
            refine X_goto (tgt := 2) dX8_leastEnd_45 rfl ?_
            exact ih (i + 1) (by omega)
          · skip
            have hz : leP B w dp v i = true := by unfold leP; rw [b2i_t.mp h37, b2i_t.mp h15, decide_eq_true h25]; rfl
            rw [fst_hit hz]
            refine X_iload_n (nx := 41) dX8_leastEnd_40 rfl rfl rfl ?_
            exact Y_reti dX8_leastEnd_41 (Or.inl rfl) rfl rfl
theorem sp_X8_leastEnd {w dp v : Nat} {x y : Int32} {B : Bk} {T : Nat → Bool} {K F : Nat → Nat} {D : Mem} (h : RB D B T K F) (hV : VB B) (hva : D 104 24 = nI v) (hv : v < 4) (hx : x = nI w) (hw : w < 1024) (hy : y = nI dp) (hd : dp < 1000) : Ei 3 j_X8_leastEnd [.ref 104, .int x, .int y] D (opI (fst_ (leP B w dp v) 0 (cm_ B))) (D) := by
  refine E.start 1 (ls := [some (.ref 104), some (.int x), some (.int y), none]) (by decide +kernel) (Nat.le_of_ble_eq_true rfl) rfl (Nat.le_refl _) (Nat.le_refl _) ?_
  subst hx; subst hy
  refine X_iconst (v := nI 0) (nx := 1) dX8_leastEnd_0 rfl rfl ?_
  refine X_istore_n (i := 3) (nx := 2) dX8_leastEnd_1 rfl rfl (by decide) rfl (st_s (st_s (st_s (st_0)))) ?_
  exact lp_X8_leastEnd h hV hva hv hw hd (cm_ B) 0 (Nat.zero_add _)
theorem dX8_leastRest_0 : decode cX8_leastRest 0 = .ok (.iconst 0, 1) := by decide +kernel
theorem dX8_leastRest_1 : decode cX8_leastRest 1 = .ok (.istore_n 3, 1) := by decide +kernel
theorem dX8_leastRest_2 : decode cX8_leastRest 2 = .ok (.iload_n 3, 1) := by decide +kernel
theorem dX8_leastRest_3 : decode cX8_leastRest 3 = .ok (.aload_n 0, 1) := by decide +kernel
theorem dX8_leastRest_4 : decode cX8_leastRest 4 = .ok (.getfield 109, 3) := by decide +kernel
theorem dX8_leastRest_7 : decode cX8_leastRest 7 = .ok (.if_icmp .ge 51, 3) := by decide +kernel
theorem dX8_leastRest_10 : decode cX8_leastRest 10 = .ok (.iload_n 1, 1) := by decide +kernel
theorem dX8_leastRest_11 : decode cX8_leastRest 11 = .ok (.iload_n 3, 1) := by decide +kernel
theorem dX8_leastRest_12 : decode cX8_leastRest 12 = .ok (.invokestatic 123, 3) := by decide +kernel
theorem dX8_leastRest_15 : decode cX8_leastRest 15 = .ok (.ifCond .eq 37, 3) := by decide +kernel
theorem dX8_leastRest_18 : decode cX8_leastRest 18 = .ok (.aload_n 0, 1) := by decide +kernel
theorem dX8_leastRest_19 : decode cX8_leastRest 19 = .ok (.getfield 31, 3) := by decide +kernel
theorem dX8_leastRest_22 : decode cX8_leastRest 22 = .ok (.iload_n 3, 1) := by decide +kernel
theorem dX8_leastRest_23 : decode cX8_leastRest 23 = .ok (.iaload, 1) := by decide +kernel
theorem dX8_leastRest_24 : decode cX8_leastRest 24 = .ok (.iload_n 2, 1) := by decide +kernel
theorem dX8_leastRest_25 : decode cX8_leastRest 25 = .ok (.iconst 1, 1) := by decide +kernel
theorem dX8_leastRest_26 : decode cX8_leastRest 26 = .ok (.iadd, 1) := by decide +kernel
theorem dX8_leastRest_27 : decode cX8_leastRest 27 = .ok (.if_icmp .ne 25, 3) := by decide +kernel
theorem dX8_leastRest_30 : decode cX8_leastRest 30 = .ok (.aload_n 0, 1) := by decide +kernel
theorem dX8_leastRest_31 : decode cX8_leastRest 31 = .ok (.iload_n 3, 1) := by decide +kernel
theorem dX8_leastRest_32 : decode cX8_leastRest 32 = .ok (.invokevirtual 149, 3) := by decide +kernel
theorem dX8_leastRest_35 : decode cX8_leastRest 35 = .ok (.ifCond .eq 17, 3) := by decide +kernel
theorem dX8_leastRest_38 : decode cX8_leastRest 38 = .ok (.aload_n 0, 1) := by decide +kernel
theorem dX8_leastRest_39 : decode cX8_leastRest 39 = .ok (.iload_n 3, 1) := by decide +kernel
theorem dX8_leastRest_40 : decode cX8_leastRest 40 = .ok (.aload_n 0, 1) := by decide +kernel
theorem dX8_leastRest_41 : decode cX8_leastRest 41 = .ok (.getfield 143, 3) := by decide +kernel
theorem dX8_leastRest_44 : decode cX8_leastRest 44 = .ok (.invokevirtual 146, 3) := by decide +kernel
theorem dX8_leastRest_47 : decode cX8_leastRest 47 = .ok (.ifCond .eq 5, 3) := by decide +kernel
theorem dX8_leastRest_50 : decode cX8_leastRest 50 = .ok (.iload_n 3, 1) := by decide +kernel
theorem dX8_leastRest_51 : decode cX8_leastRest 51 = .ok (.ireturn, 1) := by decide +kernel
theorem dX8_leastRest_52 : decode cX8_leastRest 52 = .ok (.iinc 3 1, 3) := by decide +kernel
theorem dX8_leastRest_55 : decode cX8_leastRest 55 = .ok (.goto (-53), 3) := by decide +kernel
theorem dX8_leastRest_58 : decode cX8_leastRest 58 = .ok (.bipush (-9), 2) := by decide +kernel
theorem dX8_leastRest_60 : decode cX8_leastRest 60 = .ok (.ireturn, 1) := by decide +kernel
theorem lp_X8_leastRest {w dp v : Nat} {B : Bk} {T : Nat → Bool} {K F : Nat → Nat} {D : Mem} (h : RB D B T K F) (hV : VB B) (hva : D 104 24 = nI v) (hv : v < 4) (hw : w < 1024) (hd : dp < 1000) : ∀ (m : Nat) (i : Nat), i + m = cm_ B → X 3 138 j_X8_leastRest 2 [some (.ref 104), some (.int (nI w)), some (.int (nI dp)), some (.int (nI i))] [] (138, P0, D) (fun x σ => x = [.int (opI (fst_ (lrP B w dp v) i m))] ∧ σ = wd D) := by
  intro m
  induction m with
  | zero =>
    intro i hi
    obtain ⟨hB1, hB2, hB3⟩ := id h
    have hcm := hV.2.1
    refine X_iload_n (nx := 3) dX8_leastRest_2 rfl rfl rfl ?_
    refine X_aload_n (nx := 4) dX8_leastRest_3 rfl rfl rfl ?_
    refine M_getI (nx := 7) dX8_leastRest_4 rfl fl_RX8_109 rfl (by first | assumption | rfl | decide | omega) (by first | assumption | rfl | decide | omega) ?_
    refine X_top (hB2) ?_
    refine X_icmp_ge (tgt := 58) (nx := 10) dX8_leastRest_7 rfl rfl (fun h7 => ?_) (fun h7 => ?_)
    · skip
      refine X_bipush (v := -9) (nx := 60) dX8_leastRest_58 rfl rfl ?_
      exact Y_reti dX8_leastRest_60 (Or.inl rfl) rfl rfl
    · exact absurd h7 (fun q => q (nI_le (by omega) (by omega)))
  | succ m ih =>
    intro i hi
    obtain ⟨hB1, hB2, hB3⟩ := id h
    have hcm := hV.2.1
    have hic : i < cm_ B := by omega
    have hl4 := sgl_le hV hic
    refine X_iload_n (nx := 3) dX8_leastRest_2 rfl rfl rfl ?_
    refine X_aload_n (nx := 4) dX8_leastRest_3 rfl rfl rfl ?_
    refine M_getI (nx := 7) dX8_leastRest_4 rfl fl_RX8_109 rfl (by first | assumption | rfl | decide | omega) (by first | assumption | rfl | decide | omega) ?_
    refine X_top (hB2) ?_
    refine X_icmp_ge (tgt := 58) (nx := 10) dX8_leastRest_7 rfl rfl (fun h7 => ?_) (fun h7 => ?_)
    · exact absurd h7 (nI_ge (by omega) (by omega))
    · skip
      refine X_iload_n (nx := 11) dX8_leastRest_10 rfl rfl rfl ?_
      refine X_iload_n (nx := 12) dX8_leastRest_11 rfl rfl rfl ?_
      refine Y_Si2 (nx := 15) dX8_leastRest_12 rfl ml_RX8_123 kj_X8_has ks_X8_has (sp_X8_has rfl (by omega) rfl (by omega)) (by first | decide | omega) (by exact Nat.le_of_ble_eq_true rfl) ?_
      refine X_if_eq (tgt := 52) (nx := 18) dX8_leastRest_15 rfl rfl (fun h15 => ?_) (fun h15 => ?_)
      · skip
        have hz : lrP B w dp v i = false := by unfold lrP; rw [b2i_f.mp h15]; rfl
        rw [fst_step hz]
        refine X_iinc (nx := 55) dX8_leastRest_52 rfl (by decide) rfl (by first | exact ii1 _ | rfl) rfl (st_s (st_s (st_s (st_0)))) ?_
        refine X_goto (tgt := 2) dX8_leastRest_55 rfl ?_
        exact ih (i + 1) (by omega)
      · skip
        refine X_aload_n (nx := 19) dX8_leastRest_18 rfl rfl rfl ?_
        refine M_getP (nx := 22) dX8_leastRest_19 rfl fl_RX8_31 rfl (by first | assumption | rfl | decide | omega) (by first | assumption | rfl | decide | omega) (by first | assumption | rfl | decide | omega) ?_
        refine X_iload_n (nx := 23) dX8_leastRest_22 rfl rfl rfl ?_
        refine M_ld (a := 112) (L := 10) (nx := 24) dX8_leastRest_23 rfl (by decide) (by decide) rfl (by decide) (by omega) ((hB3 i (by omega)).2.2.2.2.1) ?_
        refine X_iload_n (nx := 25) dX8_leastRest_24 rfl rfl rfl ?_
        refine X_iconst (v := nI 1) (nx := 26) dX8_leastRest_25 rfl rfl ?_
        refine X_iadd (nx := 27) dX8_leastRest_26 rfl ?_
        refine X_top (nI_add _ _) ?_
        refine X_icmp_ne (tgt := 52) (nx := 30) dX8_leastRest_27 rfl rfl (fun h27 => ?_) (fun h27 => ?_)
        · skip
          rw [nI_eq (by omega) (by omega)] at h27
          have hz : lrP B w dp v i = false := by unfold lrP; rw [decide_eq_false h27]; simp
          rw [fst_step hz]
          refine X_iinc (nx := 55) dX8_leastRest_52 rfl (by decide) rfl (by first | exact ii1 _ | rfl) rfl (st_s (st_s (st_s (st_0)))) ?_
          refine X_goto (tgt := 2) dX8_leastRest_55 rfl ?_
          exact ih (i + 1) (by omega)
        · skip
          rw [nI_eq (by omega) (by omega)] at h27
          refine X_aload_n (nx := 31) dX8_leastRest_30 rfl rfl rfl ?_
          refine X_iload_n (nx := 32) dX8_leastRest_31 rfl rfl rfl ?_
          refine Y_Vi1 (nx := 35) dX8_leastRest_32 rfl ml_RX8_149 kj_X8_hasRest kv_X8_hasRest (sp_X8_hasRest h hV rfl hic) (by first | assumption | rfl | decide | omega) (by first | assumption | rfl | decide | omega) (by decide) rfl (by first | decide | omega) (by exact Nat.le_of_ble_eq_true rfl) ?_
          refine X_if_eq (tgt := 52) (nx := 38) dX8_leastRest_35 rfl rfl (fun h35 => ?_) (fun h35 => ?_)
          · skip
            have hz : lrP B w dp v i = false := by unfold lrP; rw [b2i_f.mp h35]; simp
            rw [fst_step hz]
            refine X_iinc (nx := 55) dX8_leastRest_52 rfl (by decide) rfl (by first | exact ii1 _ | rfl) rfl (st_s (st_s (st_s (st_0)))) ?_
            refine X_goto (tgt := 2) dX8_leastRest_55 rfl ?_
            exact ih (i + 1) (by omega)
          · skip
            refine X_aload_n (nx := 39) dX8_leastRest_38 rfl rfl rfl ?_
            refine X_iload_n (nx := 40) dX8_leastRest_39 rfl rfl rfl ?_
            refine X_aload_n (nx := 41) dX8_leastRest_40 rfl rfl rfl ?_
            refine M_getI (nx := 44) dX8_leastRest_41 rfl fl_RX8_143 rfl (by first | assumption | rfl | decide | omega) (by first | assumption | rfl | decide | omega) ?_
            refine X_top (hva) ?_
            refine Y_Vi2 (nx := 47) dX8_leastRest_44 rfl ml_RX8_146 kj_X8_serves kv_X8_serves (sp_X8_serves h hV rfl hic rfl hv) (by first | assumption | rfl | decide | omega) (by first | assumption | rfl | decide | omega) (by decide) rfl (by first | decide | omega) (by exact Nat.le_of_ble_eq_true rfl) ?_
            refine X_if_eq (tgt := 52) (nx := 50) dX8_leastRest_47 rfl rfl (fun h47 => ?_) (fun h47 => ?_)
            · skip
              have hz : lrP B w dp v i = false := by unfold lrP; rw [b2i_f.mp h47]; simp
              rw [fst_step hz]
              refine X_iinc (nx := 55) dX8_leastRest_52 rfl (by decide) rfl (by first | exact ii1 _ | rfl) rfl (st_s (st_s (st_s (st_0)))) ?_
              refine X_goto (tgt := 2) dX8_leastRest_55 rfl ?_
              exact ih (i + 1) (by omega)
            · skip
              have hz : lrP B w dp v i = true := by unfold lrP; rw [b2i_t.mp h47, b2i_t.mp h35, b2i_t.mp h15, decide_eq_true h27]; rfl
              rw [fst_hit hz]
              refine X_iload_n (nx := 51) dX8_leastRest_50 rfl rfl rfl ?_
              exact Y_reti dX8_leastRest_51 (Or.inl rfl) rfl rfl
theorem sp_X8_leastRest {w dp v : Nat} {x y : Int32} {B : Bk} {T : Nat → Bool} {K F : Nat → Nat} {D : Mem} (h : RB D B T K F) (hV : VB B) (hva : D 104 24 = nI v) (hv : v < 4) (hx : x = nI w) (hw : w < 1024) (hy : y = nI dp) (hd : dp < 1000) : Ei 3 j_X8_leastRest [.ref 104, .int x, .int y] D (opI (fst_ (lrP B w dp v) 0 (cm_ B))) (D) := by
  refine E.start 1 (ls := [some (.ref 104), some (.int x), some (.int y), none]) (by decide +kernel) (Nat.le_of_ble_eq_true rfl) rfl (Nat.le_refl _) (Nat.le_refl _) ?_
  subst hx; subst hy
  refine X_iconst (v := nI 0) (nx := 1) dX8_leastRest_0 rfl rfl ?_
  refine X_istore_n (i := 3) (nx := 2) dX8_leastRest_1 rfl rfl (by decide) rfl (st_s (st_s (st_s (st_0)))) ?_
  exact lp_X8_leastRest h hV hva hv hw hd (cm_ B) 0 (Nat.zero_add _)
theorem dX8_mountFrom_0 : decode cX8_mountFrom 0 = .ok (.iload_n 3, 1) := by decide +kernel
theorem dX8_mountFrom_1 : decode cX8_mountFrom 1 = .ok (.istore 4, 2) := by decide +kernel
theorem dX8_mountFrom_3 : decode cX8_mountFrom 3 = .ok (.iload 4, 2) := by decide +kernel
theorem dX8_mountFrom_5 : decode cX8_mountFrom 5 = .ok (.aload_n 0, 1) := by decide +kernel
theorem dX8_mountFrom_6 : decode cX8_mountFrom 6 = .ok (.getfield 109, 3) := by decide +kernel
theorem dX8_mountFrom_9 : decode cX8_mountFrom 9 = .ok (.if_icmp .ge 41, 3) := by decide +kernel
theorem dX8_mountFrom_12 : decode cX8_mountFrom 12 = .ok (.iload_n 1, 1) := by decide +kernel
theorem dX8_mountFrom_13 : decode cX8_mountFrom 13 = .ok (.iload 4, 2) := by decide +kernel
theorem dX8_mountFrom_15 : decode cX8_mountFrom 15 = .ok (.invokestatic 123, 3) := by decide +kernel
theorem dX8_mountFrom_18 : decode cX8_mountFrom 18 = .ok (.ifCond .eq 26, 3) := by decide +kernel
theorem dX8_mountFrom_21 : decode cX8_mountFrom 21 = .ok (.aload_n 0, 1) := by decide +kernel
theorem dX8_mountFrom_22 : decode cX8_mountFrom 22 = .ok (.getfield 31, 3) := by decide +kernel
theorem dX8_mountFrom_25 : decode cX8_mountFrom 25 = .ok (.iload 4, 2) := by decide +kernel
theorem dX8_mountFrom_27 : decode cX8_mountFrom 27 = .ok (.iaload, 1) := by decide +kernel
theorem dX8_mountFrom_28 : decode cX8_mountFrom 28 = .ok (.iload_n 2, 1) := by decide +kernel
theorem dX8_mountFrom_29 : decode cX8_mountFrom 29 = .ok (.if_icmp .ne 15, 3) := by decide +kernel
theorem dX8_mountFrom_32 : decode cX8_mountFrom 32 = .ok (.aload_n 0, 1) := by decide +kernel
theorem dX8_mountFrom_33 : decode cX8_mountFrom 33 = .ok (.iload 4, 2) := by decide +kernel
theorem dX8_mountFrom_35 : decode cX8_mountFrom 35 = .ok (.invokevirtual 127, 3) := by decide +kernel
theorem dX8_mountFrom_38 : decode cX8_mountFrom 38 = .ok (.ifCond .eq 6, 3) := by decide +kernel
theorem dX8_mountFrom_41 : decode cX8_mountFrom 41 = .ok (.iload 4, 2) := by decide +kernel
theorem dX8_mountFrom_43 : decode cX8_mountFrom 43 = .ok (.ireturn, 1) := by decide +kernel
theorem dX8_mountFrom_44 : decode cX8_mountFrom 44 = .ok (.iinc 4 1, 3) := by decide +kernel
theorem dX8_mountFrom_47 : decode cX8_mountFrom 47 = .ok (.goto (-44), 3) := by decide +kernel
theorem dX8_mountFrom_50 : decode cX8_mountFrom 50 = .ok (.bipush (-9), 2) := by decide +kernel
theorem dX8_mountFrom_52 : decode cX8_mountFrom 52 = .ok (.ireturn, 1) := by decide +kernel
theorem lp_X8_mountFrom {w dp f : Nat} {B : Bk} {T : Nat → Bool} {K F : Nat → Nat} {D : Mem} (h : RB D B T K F) (hV : VB B) (hw : w < 1024) (hd : dp < 1000) : ∀ (m : Nat) (i : Nat), i + m = cm_ B → X 2 138 j_X8_mountFrom 3 [some (.ref 104), some (.int (nI w)), some (.int (nI dp)), some (.int (nI f)), some (.int (nI i))] [] (138, P0, D) (fun x σ => x = [.int (opI (fst_ (mfP B w dp) i m))] ∧ σ = wd D) := by
  intro m
  induction m with
  | zero =>
    intro i hi
    obtain ⟨hB1, hB2, hB3⟩ := id h
    have hcm := hV.2.1
    refine X_iload (nx := 5) dX8_mountFrom_3 rfl rfl ?_
    refine X_aload_n (nx := 6) dX8_mountFrom_5 rfl rfl rfl ?_
    refine M_getI (nx := 9) dX8_mountFrom_6 rfl fl_RX8_109 rfl (by first | assumption | rfl | decide | omega) (by first | assumption | rfl | decide | omega) ?_
    refine X_top (hB2) ?_
    refine X_icmp_ge (tgt := 50) (nx := 12) dX8_mountFrom_9 rfl rfl (fun h9 => ?_) (fun h9 => ?_)
    · skip
      refine X_bipush (v := -9) (nx := 52) dX8_mountFrom_50 rfl rfl ?_
      exact Y_reti dX8_mountFrom_52 (Or.inl rfl) rfl rfl
    · exact absurd h9 (fun q => q (nI_le (by omega) (by omega)))
  | succ m ih =>
    intro i hi
    obtain ⟨hB1, hB2, hB3⟩ := id h
    have hcm := hV.2.1
    have hic : i < cm_ B := by omega
    have hl4 := sgl_le hV hic
    refine X_iload (nx := 5) dX8_mountFrom_3 rfl rfl ?_
    refine X_aload_n (nx := 6) dX8_mountFrom_5 rfl rfl rfl ?_
    refine M_getI (nx := 9) dX8_mountFrom_6 rfl fl_RX8_109 rfl (by first | assumption | rfl | decide | omega) (by first | assumption | rfl | decide | omega) ?_
    refine X_top (hB2) ?_
    refine X_icmp_ge (tgt := 50) (nx := 12) dX8_mountFrom_9 rfl rfl (fun h9 => ?_) (fun h9 => ?_)
    · exact absurd h9 (nI_ge (by omega) (by omega))
    · skip
      refine X_iload_n (nx := 13) dX8_mountFrom_12 rfl rfl rfl ?_
      refine X_iload (nx := 15) dX8_mountFrom_13 rfl rfl ?_
      refine Y_Si2 (nx := 18) dX8_mountFrom_15 rfl ml_RX8_123 kj_X8_has ks_X8_has (sp_X8_has rfl (by omega) rfl (by omega)) (by first | decide | omega) (by exact Nat.le_of_ble_eq_true rfl) ?_
      refine X_if_eq (tgt := 44) (nx := 21) dX8_mountFrom_18 rfl rfl (fun h18 => ?_) (fun h18 => ?_)
      · skip
        have hz : mfP B w dp i = false := by unfold mfP; rw [b2i_f.mp h18]; rfl
        rw [fst_step hz]
        refine X_iinc (nx := 47) dX8_mountFrom_44 rfl (by decide) rfl (by first | exact ii1 _ | rfl) rfl (st_s (st_s (st_s (st_s (st_0))))) ?_
        refine X_goto (tgt := 3) dX8_mountFrom_47 rfl ?_
        exact ih (i + 1) (by omega)
      · skip
        refine X_aload_n (nx := 22) dX8_mountFrom_21 rfl rfl rfl ?_
        refine M_getP (nx := 25) dX8_mountFrom_22 rfl fl_RX8_31 rfl (by first | assumption | rfl | decide | omega) (by first | assumption | rfl | decide | omega) (by first | assumption | rfl | decide | omega) ?_
        refine X_iload (nx := 27) dX8_mountFrom_25 rfl rfl ?_
        refine M_ld (a := 112) (L := 10) (nx := 28) dX8_mountFrom_27 rfl (by decide) (by decide) rfl (by decide) (by omega) ((hB3 i (by omega)).2.2.2.2.1) ?_
        refine X_iload_n (nx := 29) dX8_mountFrom_28 rfl rfl rfl ?_
        refine X_icmp_ne (tgt := 44) (nx := 32) dX8_mountFrom_29 rfl rfl (fun h29 => ?_) (fun h29 => ?_)
        · skip
          rw [nI_eq (by omega) (by omega)] at h29
          have hz : mfP B w dp i = false := by unfold mfP; rw [decide_eq_false h29]; simp
          rw [fst_step hz]
          refine X_iinc (nx := 47) dX8_mountFrom_44 rfl (by decide) rfl (by first | exact ii1 _ | rfl) rfl (st_s (st_s (st_s (st_s (st_0))))) ?_
          refine X_goto (tgt := 3) dX8_mountFrom_47 rfl ?_
          exact ih (i + 1) (by omega)
        · skip
          rw [nI_eq (by omega) (by omega)] at h29
          refine X_aload_n (nx := 33) dX8_mountFrom_32 rfl rfl rfl ?_
          refine X_iload (nx := 35) dX8_mountFrom_33 rfl rfl ?_
          refine Y_Vi1 (nx := 38) dX8_mountFrom_35 rfl ml_RX8_127 kj_X8_isMount kv_X8_isMount (sp_X8_isMount h hV rfl hic) (by first | assumption | rfl | decide | omega) (by first | assumption | rfl | decide | omega) (by decide) rfl (by first | decide | omega) (by exact Nat.le_of_ble_eq_true rfl) ?_
          refine X_if_eq (tgt := 44) (nx := 41) dX8_mountFrom_38 rfl rfl (fun h38 => ?_) (fun h38 => ?_)
          · skip
            have hz : mfP B w dp i = false := by unfold mfP; rw [b2i_f.mp h38]; simp
            rw [fst_step hz]
            refine X_iinc (nx := 47) dX8_mountFrom_44 rfl (by decide) rfl (by first | exact ii1 _ | rfl) rfl (st_s (st_s (st_s (st_s (st_0))))) ?_
            refine X_goto (tgt := 3) dX8_mountFrom_47 rfl ?_
            exact ih (i + 1) (by omega)
          · skip
            have hz : mfP B w dp i = true := by unfold mfP; rw [b2i_t.mp h38, b2i_t.mp h18, decide_eq_true h29]; rfl
            rw [fst_hit hz]
            refine X_iload (nx := 43) dX8_mountFrom_41 rfl rfl ?_
            exact Y_reti dX8_mountFrom_43 (Or.inl rfl) rfl rfl
theorem sp_X8_mountFrom {w dp f : Nat} {x y z : Int32} {B : Bk} {T : Nat → Bool} {K F : Nat → Nat} {D : Mem} (h : RB D B T K F) (hV : VB B) (hx : x = nI w) (hw : w < 1024) (hy : y = nI dp) (hd : dp < 1000) (hz : z = nI f) (hf : f ≤ cm_ B) : Ei 2 j_X8_mountFrom [.ref 104, .int x, .int y, .int z] D (opI (fst_ (mfP B w dp) f (cm_ B - f))) (D) := by
  refine E.start 1 (ls := [some (.ref 104), some (.int x), some (.int y), some (.int z), none]) (by decide +kernel) (Nat.le_of_ble_eq_true rfl) rfl (Nat.le_refl _) (Nat.le_refl _) ?_
  subst hx; subst hy; subst hz
  refine X_iload_n (nx := 1) dX8_mountFrom_0 rfl rfl rfl ?_
  refine X_istore (i := 4) (nx := 3) dX8_mountFrom_1 rfl (by decide) rfl (st_s (st_s (st_s (st_s (st_0))))) ?_
  exact lp_X8_mountFrom h hV hw hd (cm_ B - f) f (by omega)
/-- the open path -/
def LT (D : Mem) (L : List Nat) : Prop := D 104 11 = nI L.length ∧ (∀ k, k < L.length → D 114 k = nI (L.getD k 0)) ∧ L.length ≤ 4 ∧ ∀ x ∈ L, x < 4
def SOP (b i : Nat) : Prop := (b = 104 ∧ i = 11) ∨ b = 114
theorem LT.fq {D D' : Mem} {L : List Nat} (h : LT D L) (h1 : D' 104 11 = D 104 11) (h2 : D' 114 = D 114) : LT D' L := ⟨h1.trans h.1, by rw [h2]; exact h.2.1, h.2.2⟩
theorem op_f : ∀ n, n < 341 → ∀ k, k < 4 → k < sz n → fos k + 4 ^ k ≤ n ∧ fos (k + 1) = fos k + 4 ^ k := by decide +kernel
theorem p4_le : ∀ k, k ≤ 4 → 4 ^ k ≤ 256 := by decide
theorem rem4 {n : Nat} (h : n < 2147483648) : nI n - nI n / nI 4 * nI 4 = nI (n % 4) := pk_rem h (by omega) (by omega)
theorem div4 {n : Nat} (h : n < 2147483648) : nI n / nI 4 = nI (n / 4) := pk_div h (by omega) (by omega)
theorem dX8_opens_0 : decode cX8_opens 0 = .ok (.iload_n 1, 1) := by decide +kernel
theorem dX8_opens_1 : decode cX8_opens 1 = .ok (.istore_n 2, 1) := by decide +kernel
theorem dX8_opens_2 : decode cX8_opens 2 = .ok (.iconst 1, 1) := by decide +kernel
theorem dX8_opens_3 : decode cX8_opens 3 = .ok (.istore_n 3, 1) := by decide +kernel
theorem dX8_opens_4 : decode cX8_opens 4 = .ok (.aload_n 0, 1) := by decide +kernel
theorem dX8_opens_5 : decode cX8_opens 5 = .ok (.iconst 0, 1) := by decide +kernel
theorem dX8_opens_6 : decode cX8_opens 6 = .ok (.putfield 134, 3) := by decide +kernel
theorem dX8_opens_9 : decode cX8_opens 9 = .ok (.iload_n 2, 1) := by decide +kernel
theorem dX8_opens_10 : decode cX8_opens 10 = .ok (.iload_n 3, 1) := by decide +kernel
theorem dX8_opens_11 : decode cX8_opens 11 = .ok (.if_icmp .lt 24, 3) := by decide +kernel
theorem dX8_opens_14 : decode cX8_opens 14 = .ok (.iload_n 2, 1) := by decide +kernel
theorem dX8_opens_15 : decode cX8_opens 15 = .ok (.iload_n 3, 1) := by decide +kernel
theorem dX8_opens_16 : decode cX8_opens 16 = .ok (.isub, 1) := by decide +kernel
theorem dX8_opens_17 : decode cX8_opens 17 = .ok (.istore_n 2, 1) := by decide +kernel
theorem dX8_opens_18 : decode cX8_opens 18 = .ok (.iload_n 3, 1) := by decide +kernel
theorem dX8_opens_19 : decode cX8_opens 19 = .ok (.iconst 4, 1) := by decide +kernel
theorem dX8_opens_20 : decode cX8_opens 20 = .ok (.imul, 1) := by decide +kernel
theorem dX8_opens_21 : decode cX8_opens 21 = .ok (.istore_n 3, 1) := by decide +kernel
theorem dX8_opens_22 : decode cX8_opens 22 = .ok (.aload_n 0, 1) := by decide +kernel
theorem dX8_opens_23 : decode cX8_opens 23 = .ok (.dup, 1) := by decide +kernel
theorem dX8_opens_24 : decode cX8_opens 24 = .ok (.getfield 134, 3) := by decide +kernel
theorem dX8_opens_27 : decode cX8_opens 27 = .ok (.iconst 1, 1) := by decide +kernel
theorem dX8_opens_28 : decode cX8_opens 28 = .ok (.iadd, 1) := by decide +kernel
theorem dX8_opens_29 : decode cX8_opens 29 = .ok (.putfield 134, 3) := by decide +kernel
theorem dX8_opens_32 : decode cX8_opens 32 = .ok (.goto (-23), 3) := by decide +kernel
theorem dX8_opens_35 : decode cX8_opens 35 = .ok (.aload_n 0, 1) := by decide +kernel
theorem dX8_opens_36 : decode cX8_opens 36 = .ok (.getfield 134, 3) := by decide +kernel
theorem dX8_opens_39 : decode cX8_opens 39 = .ok (.iconst 1, 1) := by decide +kernel
theorem dX8_opens_40 : decode cX8_opens 40 = .ok (.isub, 1) := by decide +kernel
theorem dX8_opens_41 : decode cX8_opens 41 = .ok (.istore 4, 2) := by decide +kernel
theorem dX8_opens_43 : decode cX8_opens 43 = .ok (.iload 4, 2) := by decide +kernel
theorem dX8_opens_45 : decode cX8_opens 45 = .ok (.ifCond .lt 23, 3) := by decide +kernel
theorem dX8_opens_48 : decode cX8_opens 48 = .ok (.aload_n 0, 1) := by decide +kernel
theorem dX8_opens_49 : decode cX8_opens 49 = .ok (.getfield 37, 3) := by decide +kernel
theorem dX8_opens_52 : decode cX8_opens 52 = .ok (.iload 4, 2) := by decide +kernel
theorem dX8_opens_54 : decode cX8_opens 54 = .ok (.iload_n 2, 1) := by decide +kernel
theorem dX8_opens_55 : decode cX8_opens 55 = .ok (.iconst 4, 1) := by decide +kernel
theorem dX8_opens_56 : decode cX8_opens 56 = .ok (.irem, 1) := by decide +kernel
theorem dX8_opens_57 : decode cX8_opens 57 = .ok (.iastore, 1) := by decide +kernel
theorem dX8_opens_58 : decode cX8_opens 58 = .ok (.iload_n 2, 1) := by decide +kernel
theorem dX8_opens_59 : decode cX8_opens 59 = .ok (.iconst 4, 1) := by decide +kernel
theorem dX8_opens_60 : decode cX8_opens 60 = .ok (.idiv, 1) := by decide +kernel
theorem dX8_opens_61 : decode cX8_opens 61 = .ok (.istore_n 2, 1) := by decide +kernel
theorem dX8_opens_62 : decode cX8_opens 62 = .ok (.iinc 4 (-1), 3) := by decide +kernel
theorem dX8_opens_65 : decode cX8_opens 65 = .ok (.goto (-22), 3) := by decide +kernel
theorem dX8_opens_68 : decode cX8_opens 68 = .ok (.return_, 1) := by decide +kernel
theorem lp_X8_opens2 {n : Nat} {s : Int32} {D : Mem} (hn : n < 341) : ∀ (m : Nat) (D1 : Mem), m ≤ sz n → D1 104 11 = nI (sz n) → (∀ k, m ≤ k → k < sz n → D1 114 k = nI (ltr n k)) → Fq SOP D D1 → X 1 138 j_X8_opens 43 [some (.ref 104), some (.int (nI n)), some (.int (nI ((n - fos (sz n)) / 4 ^ (sz n - m)))), some (.int s), some (.int (nI m - 1))] [] (138, P0, D1) (fun x σ => ∃ D' : Mem, x = [] ∧ σ = wd D' ∧ LT D' (pathL n) ∧ Fq SOP D D') := by
  intro m
  induction m with
  | zero =>
    intro D1 hm hs hl hf
    refine X_iload (nx := 45) dX8_opens_43 rfl rfl ?_
    refine X_if_lt (tgt := 68) (nx := 48) dX8_opens_45 rfl rfl (fun h45 => ?_) (fun h45 => ?_)
    · skip
      exact Z_retv dX8_opens_68 rfl ⟨⟨by rw [pathL_len]; exact hs, fun k hk => by rw [pathL_len] at hk; rw [pathL_get hk]; exact hl k (by omega) hk, by rw [pathL_len]; exact sz_le n, fun x hx => pathL_lt hx⟩, hf⟩
    · exact absurd h45 (fun q => q m1_lt)
  | succ m ih =>
    intro D1 hm hs hl hf
    have hz := sz_le n
    have hq : (n - fos (sz n)) / 4 ^ (sz n - (m + 1)) ≤ n - fos (sz n) := Nat.div_le_self _ _
    refine X_iload (nx := 45) dX8_opens_43 rfl rfl ?_
    refine X_if_lt (tgt := 68) (nx := 48) dX8_opens_45 rfl rfl (fun h45 => ?_) (fun h45 => ?_)
    · exact absurd h45 (by rw [sub1]; exact nI_neg (by omega))
    · skip
      refine X_aload_n (nx := 49) dX8_opens_48 rfl rfl rfl ?_
      refine M_getP (nx := 52) dX8_opens_49 rfl fl_RX8_37 rfl (by first | assumption | rfl | decide | omega) (by first | assumption | rfl | decide | omega) (by first | assumption | rfl | decide | omega) ?_
      refine X_iload (nx := 54) dX8_opens_52 rfl rfl ?_
      refine X_top (sub1 m) ?_
      refine X_iload_n (nx := 55) dX8_opens_54 rfl rfl rfl ?_
      refine X_iconst (v := nI 4) (nx := 56) dX8_opens_55 rfl rfl ?_
      refine X_irem (nx := 57) dX8_opens_56 rfl (by decide) ?_
      refine X_top (rem4 (by omega)) ?_
      refine M_st (a := 114) (L := 4) (nx := 58) dX8_opens_57 rfl (by decide) (by decide) rfl (by decide) (by omega) ?_
      refine X_iload_n (nx := 59) dX8_opens_58 rfl rfl rfl ?_
      refine X_iconst (v := nI 4) (nx := 60) dX8_opens_59 rfl rfl ?_
      refine X_idiv (nx := 61) dX8_opens_60 rfl (by decide) ?_
      refine X_top (div4 (by omega)) ?_
      refine X_istore_n (i := 2) (nx := 62) dX8_opens_61 rfl rfl (by decide) rfl (st_s (st_s (st_0))) ?_
      refine X_iinc (nx := 65) dX8_opens_62 rfl (by decide) rfl (show nI (m + 1) - 1 + Int32.ofInt (-1) = nI m - 1 by rw [sub1, dec1]) rfl (st_s (st_s (st_s (st_s (st_0))))) ?_
      refine X_goto (tgt := 43) dX8_opens_65 rfl ?_
      have e1 : (n - fos (sz n)) / 4 ^ (sz n - (m + 1)) / 4 = (n - fos (sz n)) / 4 ^ (sz n - m) := by rw [Nat.div_div_eq_div_mul, show sz n - m = sz n - (m + 1) + 1 by omega, Nat.pow_succ]
      rw [e1]
      refine ih _ (by omega) ((up2_other (by omega)).trans hs) (fun k h1 h2 => ?_) (hf.tr (Fq.up (Or.inr rfl)))
      by_cases hk : k = m
      · subst hk
        rw [up2_same]
        show _ = nI ((n - fos (sz n)) / 4 ^ (sz n - 1 - k) % 4)
        rw [show sz n - 1 - k = sz n - (k + 1) by omega]
      · rw [up2_other (by omega)]; exact hl k (by omega) h2
theorem lp_X8_opens1 {n : Nat} {D : Mem} (hn : n < 341) : ∀ (m : Nat) (k : Nat) (D1 : Mem), k + m = sz n → D1 104 11 = nI k → Fq SOP D D1 → X 1 138 j_X8_opens 9 [some (.ref 104), some (.int (nI n)), some (.int (nI (n - fos k))), some (.int (nI (4 ^ k))), none] [] (138, P0, D1) (fun x σ => ∃ D' : Mem, x = [] ∧ σ = wd D' ∧ LT D' (pathL n) ∧ Fq SOP D D') := by
  intro m
  induction m with
  | zero =>
    intro k D1 hi hk hf
    refine X_iload_n (nx := 10) dX8_opens_9 rfl rfl rfl ?_
    refine X_iload_n (nx := 11) dX8_opens_10 rfl rfl rfl ?_
    refine X_icmp_lt (tgt := 35) (nx := 14) dX8_opens_11 rfl rfl (fun h11 => ?_) (fun h11 => ?_)
    · skip
      refine X_aload_n (nx := 36) dX8_opens_35 rfl rfl rfl ?_
      refine M_getI (nx := 39) dX8_opens_36 rfl fl_RX8_134 rfl (by first | assumption | rfl | decide | omega) (by first | assumption | rfl | decide | omega) ?_
      refine X_top (hk) ?_
      refine X_iconst (v := 1) (nx := 40) dX8_opens_39 rfl rfl ?_
      refine X_isub (nx := 41) dX8_opens_40 rfl ?_
      refine X_istore (i := 4) (nx := 43) dX8_opens_41 rfl (by decide) rfl (st_s (st_s (st_s (st_s (st_0))))) ?_
      obtain rfl : k = sz n := (by omega)
      have hq := lp_X8_opens2 (s := nI (4 ^ sz n)) hn (sz n) D1 (Nat.le_refl _) hk (fun k h1 h2 => by omega) hf
      rw [show sz n - sz n = 0 by omega, Nat.pow_zero, Nat.div_one] at hq
      exact hq
    · exact absurd h11 (fun q => q (by obtain rfl : k = sz n := (by omega); exact nI_lt (fos_sz n hn).2 (by have := p4_le (sz n) (sz_le n); omega)))
  | succ m ih =>
    intro k D1 hi hk hf
    have hz := sz_le n
    have hof := op_f n hn k (by omega) (by omega)
    refine X_iload_n (nx := 10) dX8_opens_9 rfl rfl rfl ?_
    refine X_iload_n (nx := 11) dX8_opens_10 rfl rfl rfl ?_
    refine X_icmp_lt (tgt := 35) (nx := 14) dX8_opens_11 rfl rfl (fun h11 => ?_) (fun h11 => ?_)
    · exact absurd h11 (nI_nlt (by omega) (by omega))
    · skip
      refine X_iload_n (nx := 15) dX8_opens_14 rfl rfl rfl ?_
      refine X_iload_n (nx := 16) dX8_opens_15 rfl rfl rfl ?_
      refine X_isub (nx := 17) dX8_opens_16 rfl ?_
      refine X_top (show _ = nI (n - fos (k + 1)) from by rw [sub_nI (by omega), show n - fos k - 4 ^ k = n - fos (k + 1) by omega]) ?_
      refine X_istore_n (i := 2) (nx := 18) dX8_opens_17 rfl rfl (by decide) rfl (st_s (st_s (st_0))) ?_
      refine X_iload_n (nx := 19) dX8_opens_18 rfl rfl rfl ?_
      refine X_iconst (v := nI 4) (nx := 20) dX8_opens_19 rfl rfl ?_
      refine X_imul (nx := 21) dX8_opens_20 rfl ?_
      refine X_top (show _ = nI (4 ^ (k + 1)) from by rw [mul_nI, Nat.pow_succ]) ?_
      refine X_istore_n (i := 3) (nx := 22) dX8_opens_21 rfl rfl (by decide) rfl (st_s (st_s (st_s (st_0)))) ?_
      refine X_aload_n (nx := 23) dX8_opens_22 rfl rfl rfl ?_
      refine X_dup (nx := 24) dX8_opens_23 rfl rfl ?_
      refine M_getI (nx := 27) dX8_opens_24 rfl fl_RX8_134 rfl (by first | assumption | rfl | decide | omega) (by first | assumption | rfl | decide | omega) ?_
      refine X_top (hk) ?_
      refine X_iconst (v := nI 1) (nx := 28) dX8_opens_27 rfl rfl ?_
      refine X_iadd (nx := 29) dX8_opens_28 rfl ?_
      refine X_top (nI_add _ _) ?_
      refine M_putI (nx := 32) dX8_opens_29 rfl fl_RX8_134 rfl rfl (by first | assumption | rfl | decide | omega) (by first | assumption | rfl | decide | omega) ?_
      refine X_goto (tgt := 9) dX8_opens_32 rfl ?_
      exact ih (k + 1) _ (by omega) up2_same (hf.tr (Fq.up (Or.inl ⟨rfl, rfl⟩)))
theorem sp_X8_opens {n : Nat} {x : Int32} {D : Mem} (hx : x = nI n) (hn : n < 341) : Rvx 1 j_X8_opens [.ref 104, .int x] D (fun D' => LT D' (pathL n) ∧ Fq SOP D D') := by
  refine E.start 3 (ls := [some (.ref 104), some (.int x), none, none, none]) (by decide +kernel) (Nat.le_of_ble_eq_true rfl) rfl (Nat.le_refl _) (Nat.le_refl _) ?_
  subst hx
  refine X_iload_n (nx := 1) dX8_opens_0 rfl rfl rfl ?_
  refine X_istore_n (i := 2) (nx := 2) dX8_opens_1 rfl rfl (by decide) rfl (st_s (st_s (st_0))) ?_
  refine X_iconst (v := nI 1) (nx := 3) dX8_opens_2 rfl rfl ?_
  refine X_istore_n (i := 3) (nx := 4) dX8_opens_3 rfl rfl (by decide) rfl (st_s (st_s (st_s (st_0)))) ?_
  refine X_aload_n (nx := 5) dX8_opens_4 rfl rfl rfl ?_
  refine X_iconst (v := nI 0) (nx := 6) dX8_opens_5 rfl rfl ?_
  refine M_putI (nx := 9) dX8_opens_6 rfl fl_RX8_134 rfl rfl (by first | assumption | rfl | decide | omega) (by first | assumption | rfl | decide | omega) ?_
  exact lp_X8_opens1 hn (sz n) 0 _ (Nat.zero_add _) up2_same (Fq.up (Or.inl ⟨rfl, rfl⟩))
