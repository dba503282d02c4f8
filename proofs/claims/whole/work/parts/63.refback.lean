/-! THE REFERENCE: ways, paths built, back -/
/-- the ways found so far -/
def WYS (B : Bk) (D : Mem) (R : Nat) : Prop := D 135 0 = 10 ∧ ∀ x, 1 ≤ x → x < R → D 135 x = opI (wy B (R - 1) x)
def WYF (b i : Nat) : Prop := b = 135
theorem wy_lo {B : Bk} {R x : Nat} (hx : x ≤ R) : wy B (R + 1) x = wy B R x := if_neg (by omega)
theorem wyP_cut {B : Bk} (hV : VB B) {W : Nat → Option Nat} {R : Nat} : fst_ (wyP B W R) 0 10 = fst_ (wyP B W R) 0 (cm_ B) :=
  fst_cut hV.2.1 (fun x h1 _ => by unfold wyP thN; rw [decide_eq_false (by omega : ¬ x < cm_ B)]; rfl)
theorem opI_s {k : Nat} : opI (some k) = nI k := rfl
theorem nI_ten : (10 : Int32) = nI 10 := rfl
/-- the test of a mount, as the reference makes it -/
theorem wy_test {B : Bk} (hV : VB B) {D : Mem} {R r : Nat} (hR : 1 ≤ R ∧ R < 3) (hw : WYS B D R) (hr : r < cm_ B) (hmo : mo_ B r = nI R) : ro_ B r < R ∧ (0 ≤ D 135 (ro_ B r) ↔ (decide (ro_ B r = 0) || (wy B (R - 1) (ro_ B r)).isSome) = true) := by
  have hmt : mtB B r = true := by unfold mtB; rw [hmo]; exact decide_eq_true (nI_pos' (by omega))
  obtain ⟨u, hu1, hu2, hu3, _⟩ := (hV.2.2 r hr).mount hmt
  rw [hmo] at hu1
  have := (nI_eq (a := R) (b := u) (by omega) (by omega)).mp hu1
  refine ⟨by omega, ?_⟩
  by_cases h0 : ro_ B r = 0
  · rw [h0, hw.1, decide_eq_true rfl]; exact ⟨fun _ => rfl, fun _ => by decide⟩
  · rw [hw.2 _ (by omega) (by omega), decide_eq_false h0, Bool.false_or]
    cases hy : wy B (R - 1) (ro_ B r) with
    | none => exact ⟨fun q => absurd q (by decide), fun q => by cases q⟩
    | some k => exact ⟨fun _ => rfl, fun _ => nI_pos' (by have := wy_lt _ _ _ hy; omega)⟩
theorem dX8_findWays_0 : decode cX8_findWays 0 = .ok (.aload_n 0, 1) := by decide +kernel
theorem dX8_findWays_1 : decode cX8_findWays 1 = .ok (.getfield 100, 3) := by decide +kernel
theorem dX8_findWays_4 : decode cX8_findWays 4 = .ok (.iconst 0, 1) := by decide +kernel
theorem dX8_findWays_5 : decode cX8_findWays 5 = .ok (.bipush 10, 2) := by decide +kernel
theorem dX8_findWays_7 : decode cX8_findWays 7 = .ok (.iastore, 1) := by decide +kernel
theorem dX8_findWays_8 : decode cX8_findWays 8 = .ok (.iconst 1, 1) := by decide +kernel
theorem dX8_findWays_9 : decode cX8_findWays 9 = .ok (.istore_n 1, 1) := by decide +kernel
theorem dX8_findWays_10 : decode cX8_findWays 10 = .ok (.iload_n 1, 1) := by decide +kernel
theorem dX8_findWays_11 : decode cX8_findWays 11 = .ok (.iconst 3, 1) := by decide +kernel
theorem dX8_findWays_12 : decode cX8_findWays 12 = .ok (.if_icmp .ge 75, 3) := by decide +kernel
theorem dX8_findWays_15 : decode cX8_findWays 15 = .ok (.aload_n 0, 1) := by decide +kernel
theorem dX8_findWays_16 : decode cX8_findWays 16 = .ok (.getfield 100, 3) := by decide +kernel
theorem dX8_findWays_19 : decode cX8_findWays 19 = .ok (.iload_n 1, 1) := by decide +kernel
theorem dX8_findWays_20 : decode cX8_findWays 20 = .ok (.bipush (-9), 2) := by decide +kernel
theorem dX8_findWays_22 : decode cX8_findWays 22 = .ok (.iastore, 1) := by decide +kernel
theorem dX8_findWays_23 : decode cX8_findWays 23 = .ok (.aload_n 0, 1) := by decide +kernel
theorem dX8_findWays_24 : decode cX8_findWays 24 = .ok (.getfield 109, 3) := by decide +kernel
theorem dX8_findWays_27 : decode cX8_findWays 27 = .ok (.iconst 1, 1) := by decide +kernel
theorem dX8_findWays_28 : decode cX8_findWays 28 = .ok (.isub, 1) := by decide +kernel
theorem dX8_findWays_29 : decode cX8_findWays 29 = .ok (.istore_n 2, 1) := by decide +kernel
theorem dX8_findWays_30 : decode cX8_findWays 30 = .ok (.iload_n 2, 1) := by decide +kernel
theorem dX8_findWays_31 : decode cX8_findWays 31 = .ok (.ifCond .lt 50, 3) := by decide +kernel
theorem dX8_findWays_34 : decode cX8_findWays 34 = .ok (.aload_n 0, 1) := by decide +kernel
theorem dX8_findWays_35 : decode cX8_findWays 35 = .ok (.getfield 19, 3) := by decide +kernel
theorem dX8_findWays_38 : decode cX8_findWays 38 = .ok (.iload_n 2, 1) := by decide +kernel
theorem dX8_findWays_39 : decode cX8_findWays 39 = .ok (.iaload, 1) := by decide +kernel
theorem dX8_findWays_40 : decode cX8_findWays 40 = .ok (.iconst 1, 1) := by decide +kernel
theorem dX8_findWays_41 : decode cX8_findWays 41 = .ok (.if_icmp .ne 34, 3) := by decide +kernel
theorem dX8_findWays_44 : decode cX8_findWays 44 = .ok (.aload_n 0, 1) := by decide +kernel
theorem dX8_findWays_45 : decode cX8_findWays 45 = .ok (.getfield 28, 3) := by decide +kernel
theorem dX8_findWays_48 : decode cX8_findWays 48 = .ok (.iload_n 2, 1) := by decide +kernel
theorem dX8_findWays_49 : decode cX8_findWays 49 = .ok (.iaload, 1) := by decide +kernel
theorem dX8_findWays_50 : decode cX8_findWays 50 = .ok (.iload_n 1, 1) := by decide +kernel
theorem dX8_findWays_51 : decode cX8_findWays 51 = .ok (.if_icmp .ne 24, 3) := by decide +kernel
theorem dX8_findWays_54 : decode cX8_findWays 54 = .ok (.aload_n 0, 1) := by decide +kernel
theorem dX8_findWays_55 : decode cX8_findWays 55 = .ok (.getfield 100, 3) := by decide +kernel
theorem dX8_findWays_58 : decode cX8_findWays 58 = .ok (.aload_n 0, 1) := by decide +kernel
theorem dX8_findWays_59 : decode cX8_findWays 59 = .ok (.getfield 22, 3) := by decide +kernel
theorem dX8_findWays_62 : decode cX8_findWays 62 = .ok (.iload_n 2, 1) := by decide +kernel
theorem dX8_findWays_63 : decode cX8_findWays 63 = .ok (.iaload, 1) := by decide +kernel
theorem dX8_findWays_64 : decode cX8_findWays 64 = .ok (.iaload, 1) := by decide +kernel
theorem dX8_findWays_65 : decode cX8_findWays 65 = .ok (.ifCond .lt 10, 3) := by decide +kernel
theorem dX8_findWays_68 : decode cX8_findWays 68 = .ok (.aload_n 0, 1) := by decide +kernel
theorem dX8_findWays_69 : decode cX8_findWays 69 = .ok (.getfield 100, 3) := by decide +kernel
theorem dX8_findWays_72 : decode cX8_findWays 72 = .ok (.iload_n 1, 1) := by decide +kernel
theorem dX8_findWays_73 : decode cX8_findWays 73 = .ok (.iload_n 2, 1) := by decide +kernel
theorem dX8_findWays_74 : decode cX8_findWays 74 = .ok (.iastore, 1) := by decide +kernel
theorem dX8_findWays_75 : decode cX8_findWays 75 = .ok (.iinc 2 (-1), 3) := by decide +kernel
theorem dX8_findWays_78 : decode cX8_findWays 78 = .ok (.goto (-48), 3) := by decide +kernel
theorem dX8_findWays_81 : decode cX8_findWays 81 = .ok (.iinc 1 1, 3) := by decide +kernel
theorem dX8_findWays_84 : decode cX8_findWays 84 = .ok (.goto (-74), 3) := by decide +kernel
theorem dX8_findWays_87 : decode cX8_findWays 87 = .ok (.return_, 1) := by decide +kernel
theorem X_fg3b {d k pc : Nat} {j : MI} {a b o : Option Value} {st : List Value} {σ : Wd} {Q : List Value → Wd → Prop} (hX : X d k j pc [a, b, none] st σ Q) : X d k j pc [a, b, o] st σ Q := by
  refine X_forget (fun i v h => ?_) hX
  match i, h with
  | 0, h => exact h
  | 1, h => exact h
  | 2, h => cases h
  | n + 3, h => cases h
theorem lp_ways2_in {R : Nat} {B : Bk} {K F : Nat → Nat} {D : Mem} (h : RB D B (th_ B) K F) (hV : VB B) (hR : 1 ≤ R ∧ R < 3) {Q : List Value → Wd → Prop} (hk : ∀ D2, Fq WYF D D2 → WYS B D2 R → D2 135 R = opI (fst_ (wyP B (wy B (R - 1)) R) 0 (cm_ B)) → X 1 138 j_X8_findWays 81 [some (.ref 104), some (.int (nI R)), none] [] (138, P0, D2) Q) : ∀ (m : Nat) (D1 : Mem), m ≤ cm_ B → Fq WYF D D1 → WYS B D1 R → D1 135 R = opI (fst_ (wyP B (wy B (R - 1)) R) m (cm_ B - m)) → X 1 138 j_X8_findWays 30 [some (.ref 104), some (.int (nI R)), some (.int (nI m - 1))] [] (138, P0, D1) (Q) := by
  intro m
  induction m with
  | zero =>
    intro D1 hm hq hw h3
    obtain ⟨hB1, hB2, hB3⟩ := id h
    have hcm := hV.2.1
    refine X_iload_n (nx := 31) dX8_findWays_30 rfl rfl rfl ?_
    refine X_if_lt (tgt := 81) (nx := 34) dX8_findWays_31 rfl rfl (fun h31 => ?_) (fun h31 => ?_)
    · skip
      refine X_fg3b ?_
      exact hk D1 hq hw (by rw [h3, Nat.sub_zero])
    · exact absurd h31 (fun q => q m1_lt)
  | succ m ih =>
    intro D1 hm hq hw h3
    obtain ⟨hB1, hB2, hB3⟩ := id h
    have hcm := hV.2.1
    have hmc : m < cm_ B := by omega
    refine X_iload_n (nx := 31) dX8_findWays_30 rfl rfl rfl ?_
    refine X_if_lt (tgt := 81) (nx := 34) dX8_findWays_31 rfl rfl (fun h31 => ?_) (fun h31 => ?_)
    · exact absurd h31 (by rw [sub1]; exact nI_neg (by omega))
    · skip
      refine X_aload_n (nx := 35) dX8_findWays_34 rfl rfl rfl ?_
      refine M_getP (nx := 38) dX8_findWays_35 rfl fl_RX8_19 rfl (by first | assumption | rfl | decide | omega) (by first | assumption | rfl | decide | omega) (by first | assumption | rfl | decide | omega) ?_
      refine X_iload_n (nx := 39) dX8_findWays_38 rfl rfl rfl ?_
      refine X_top (sub1 m) ?_
      refine M_ld (a := 108) (L := 10) (nx := 40) dX8_findWays_39 rfl (by decide) (by decide) rfl (by decide) (by omega) ((hq 108 m (by unfold WYF; omega)).trans (hB3 m (by omega)).1) ?_
      refine X_iconst (v := 1) (nx := 41) dX8_findWays_40 rfl rfl ?_
      refine X_icmp_ne (tgt := 75) (nx := 44) dX8_findWays_41 rfl rfl (fun h41 => ?_) (fun h41 => ?_)
      · skip
        have hz : (wyP B (wy B (R - 1)) R) m = false := by unfold wyP thN; rw [decide_eq_true hmc]; cases hT : th_ B m; rfl; exact absurd (b2i_1.mpr hT) h41
        refine X_iinc (nx := 78) dX8_findWays_75 rfl (by decide) rfl (show nI (m + 1) - 1 + Int32.ofInt (-1) = nI m - 1 by rw [sub1, dec1]) rfl (st_s (st_s (st_0))) ?_
        refine X_goto (tgt := 30) dX8_findWays_78 rfl ?_
        rw [show cm_ B - (m + 1) = cm_ B - (m + 1) from rfl] at h3
        have e9 : cm_ B - m = (cm_ B - (m + 1)) + 1 := by omega
        first
        | exact ih D1 (by omega) hq hw (by rw [e9, fst_step hz]; exact h3)
        | (refine ih _ (by omega) (hq.tr (Fq.up rfl)) ⟨(up2_other (by omega)).trans hw.1, fun x h1 h2 => (up2_other (by omega)).trans (hw.2 x h1 h2)⟩ ?_
           rw [e9, fst_hit hz, up2_same]; rfl)
      · skip
        refine X_aload_n (nx := 45) dX8_findWays_44 rfl rfl rfl ?_
        refine M_getP (nx := 48) dX8_findWays_45 rfl fl_RX8_28 rfl (by first | assumption | rfl | decide | omega) (by first | assumption | rfl | decide | omega) (by first | assumption | rfl | decide | omega) ?_
        refine X_iload_n (nx := 49) dX8_findWays_48 rfl rfl rfl ?_
        refine X_top (sub1 m) ?_
        refine M_ld (a := 111) (L := 10) (nx := 50) dX8_findWays_49 rfl (by decide) (by decide) rfl (by decide) (by omega) ((hq 111 m (by unfold WYF; omega)).trans (hB3 m (by omega)).2.2.2.1) ?_
        refine X_iload_n (nx := 51) dX8_findWays_50 rfl rfl rfl ?_
        refine X_icmp_ne (tgt := 75) (nx := 54) dX8_findWays_51 rfl rfl (fun h51 => ?_) (fun h51 => ?_)
        · skip
          have hz : (wyP B (wy B (R - 1)) R) m = false := by unfold wyP; rw [decide_eq_false h51]; simp
          refine X_iinc (nx := 78) dX8_findWays_75 rfl (by decide) rfl (show nI (m + 1) - 1 + Int32.ofInt (-1) = nI m - 1 by rw [sub1, dec1]) rfl (st_s (st_s (st_0))) ?_
          refine X_goto (tgt := 30) dX8_findWays_78 rfl ?_
          rw [show cm_ B - (m + 1) = cm_ B - (m + 1) from rfl] at h3
          have e9 : cm_ B - m = (cm_ B - (m + 1)) + 1 := by omega
          first
          | exact ih D1 (by omega) hq hw (by rw [e9, fst_step hz]; exact h3)
          | (refine ih _ (by omega) (hq.tr (Fq.up rfl)) ⟨(up2_other (by omega)).trans hw.1, fun x h1 h2 => (up2_other (by omega)).trans (hw.2 x h1 h2)⟩ ?_
             rw [e9, fst_hit hz, up2_same]; rfl)
        · skip
          have hts := wy_test hV hR hw hmc h51
          refine X_aload_n (nx := 55) dX8_findWays_54 rfl rfl rfl ?_
          refine M_getP (nx := 58) dX8_findWays_55 rfl fl_RX8_100 rfl (by first | assumption | rfl | decide | omega) (by first | assumption | rfl | decide | omega) (by first | assumption | rfl | decide | omega) ?_
          refine X_aload_n (nx := 59) dX8_findWays_58 rfl rfl rfl ?_
          refine M_getP (nx := 62) dX8_findWays_59 rfl fl_RX8_22 rfl (by first | assumption | rfl | decide | omega) (by first | assumption | rfl | decide | omega) (by first | assumption | rfl | decide | omega) ?_
          refine X_iload_n (nx := 63) dX8_findWays_62 rfl rfl rfl ?_
          refine X_top (sub1 m) ?_
          refine M_ld (a := 109) (L := 10) (nx := 64) dX8_findWays_63 rfl (by decide) (by decide) rfl (by decide) (by omega) ((hq 109 m (by unfold WYF; omega)).trans (hB3 m (by omega)).2.1) ?_
          refine M_ld (a := 135) (L := 3) (nx := 65) dX8_findWays_64 rfl (by decide) (by decide) rfl (by decide) (by have := (hV.2.2 m (by omega)).1; omega) (rfl) ?_
          refine X_if_lt (tgt := 75) (nx := 68) dX8_findWays_65 rfl rfl (fun h65 => ?_) (fun h65 => ?_)
          · skip
            have hz : (wyP B (wy B (R - 1)) R) m = false := by unfold wyP; rw [show (decide (ro_ B m = 0) || (wy B (R - 1) (ro_ B m)).isSome) = false from Bool.eq_false_iff.mpr (fun q => Int32.not_le.mpr h65 (hts.2.mpr q))]; simp
            refine X_iinc (nx := 78) dX8_findWays_75 rfl (by decide) rfl (show nI (m + 1) - 1 + Int32.ofInt (-1) = nI m - 1 by rw [sub1, dec1]) rfl (st_s (st_s (st_0))) ?_
            refine X_goto (tgt := 30) dX8_findWays_78 rfl ?_
            rw [show cm_ B - (m + 1) = cm_ B - (m + 1) from rfl] at h3
            have e9 : cm_ B - m = (cm_ B - (m + 1)) + 1 := by omega
            first
            | exact ih D1 (by omega) hq hw (by rw [e9, fst_step hz]; exact h3)
            | (refine ih _ (by omega) (hq.tr (Fq.up rfl)) ⟨(up2_other (by omega)).trans hw.1, fun x h1 h2 => (up2_other (by omega)).trans (hw.2 x h1 h2)⟩ ?_
               rw [e9, fst_hit hz, up2_same]; rfl)
          · skip
            have hz : (wyP B (wy B (R - 1)) R) m = true := by unfold wyP thN; rw [decide_eq_true hmc, b2i_1.mp h41, decide_eq_true h51, hts.2.mp (Int32.not_lt.mp h65)]; rfl
            refine X_aload_n (nx := 69) dX8_findWays_68 rfl rfl rfl ?_
            refine M_getP (nx := 72) dX8_findWays_69 rfl fl_RX8_100 rfl (by first | assumption | rfl | decide | omega) (by first | assumption | rfl | decide | omega) (by first | assumption | rfl | decide | omega) ?_
            refine X_iload_n (nx := 73) dX8_findWays_72 rfl rfl rfl ?_
            refine X_iload_n (nx := 74) dX8_findWays_73 rfl rfl rfl ?_
            refine X_top (sub1 m) ?_
            refine M_st (a := 135) (L := 3) (nx := 75) dX8_findWays_74 rfl (by decide) (by decide) rfl (by decide) (by omega) ?_
            refine X_iinc (nx := 78) dX8_findWays_75 rfl (by decide) rfl (show nI (m + 1) - 1 + Int32.ofInt (-1) = nI m - 1 by rw [sub1, dec1]) rfl (st_s (st_s (st_0))) ?_
            refine X_goto (tgt := 30) dX8_findWays_78 rfl ?_
            rw [show cm_ B - (m + 1) = cm_ B - (m + 1) from rfl] at h3
            have e9 : cm_ B - m = (cm_ B - (m + 1)) + 1 := by omega
            first
            | exact ih D1 (by omega) hq hw (by rw [e9, fst_step hz]; exact h3)
            | (refine ih _ (by omega) (hq.tr (Fq.up rfl)) ⟨(up2_other (by omega)).trans hw.1, fun x h1 h2 => (up2_other (by omega)).trans (hw.2 x h1 h2)⟩ ?_
               rw [e9, fst_hit hz, up2_same]; rfl)
theorem lp_ways2_out {B : Bk} {K F : Nat → Nat} {D : Mem} (h : RB D B (th_ B) K F) (hV : VB B) : ∀ (m : Nat) (R : Nat) (D1 : Mem), R + m = 3 → 1 ≤ R → Fq WYF D D1 → WYS B D1 R → X 1 138 j_X8_findWays 10 [some (.ref 104), some (.int (nI R)), none] [] (138, P0, D1) (fun x σ => ∃ (D' : Mem), x = [] ∧ σ = wd D' ∧ (Fq WYF D D' ∧ WYS B D' 3)) := by
  intro m
  induction m with
  | zero =>
    intro R D1 hi h1 hq hw
    obtain ⟨hB1, hB2, hB3⟩ := id h
    have hcm := hV.2.1
    refine X_iload_n (nx := 11) dX8_findWays_10 rfl rfl rfl ?_
    refine X_iconst (v := nI 3) (nx := 12) dX8_findWays_11 rfl rfl ?_
    refine X_icmp_ge (tgt := 87) (nx := 15) dX8_findWays_12 rfl rfl (fun h12 => ?_) (fun h12 => ?_)
    · skip
      exact Z_retv dX8_findWays_87 rfl (by obtain rfl : R = 3 := (by omega); exact ⟨hq, hw⟩)
    · exact absurd h12 (fun q => q (nI_le (by omega) (by omega)))
  | succ m ih =>
    intro R D1 hi h1 hq hw
    obtain ⟨hB1, hB2, hB3⟩ := id h
    have hcm := hV.2.1
    refine X_iload_n (nx := 11) dX8_findWays_10 rfl rfl rfl ?_
    refine X_iconst (v := nI 3) (nx := 12) dX8_findWays_11 rfl rfl ?_
    refine X_icmp_ge (tgt := 87) (nx := 15) dX8_findWays_12 rfl rfl (fun h12 => ?_) (fun h12 => ?_)
    · exact absurd h12 (nI_ge (by omega) (by omega))
    · skip
      refine X_aload_n (nx := 16) dX8_findWays_15 rfl rfl rfl ?_
      refine M_getP (nx := 19) dX8_findWays_16 rfl fl_RX8_100 rfl (by first | assumption | rfl | decide | omega) (by first | assumption | rfl | decide | omega) (by first | assumption | rfl | decide | omega) ?_
      refine X_iload_n (nx := 20) dX8_findWays_19 rfl rfl rfl ?_
      refine X_bipush (v := -9) (nx := 22) dX8_findWays_20 rfl rfl ?_
      refine M_st (a := 135) (L := 3) (nx := 23) dX8_findWays_22 rfl (by decide) (by decide) rfl (by decide) (by omega) ?_
      refine X_aload_n (nx := 24) dX8_findWays_23 rfl rfl rfl ?_
      refine M_getI (nx := 27) dX8_findWays_24 rfl fl_RX8_109 rfl (by first | assumption | rfl | decide | omega) (by first | assumption | rfl | decide | omega) ?_
      refine X_top ((up2_other (by omega)).trans ((hq 104 9 (by unfold WYF; omega)).trans hB2)) ?_
      refine X_iconst (v := nI 1) (nx := 28) dX8_findWays_27 rfl rfl ?_
      refine X_isub (nx := 29) dX8_findWays_28 rfl ?_
      refine X_istore_n (i := 2) (nx := 30) dX8_findWays_29 rfl rfl (by decide) rfl (st_s (st_s (st_0))) ?_
      refine lp_ways2_in (K := K) (F := F) (D := up2 D1 135 R (-9)) ?_ hV ⟨h1, by omega⟩ (fun D2 g1 g2 g3 => ?_) (cm_ B) (up2 D1 135 R (-9)) (Nat.le_refl _) Fq.rf ⟨(up2_other (by omega)).trans hw.1, fun x a b => (up2_other (by omega)).trans (hw.2 x a b)⟩ (by rw [up2_same, Nat.sub_self]; rfl)
      · exact h.fq ((hq.tr (Fq.up rfl)).mono (fun b i q => by unfold WYF at q; unfold SCR; omega))
      · refine X_iinc (nx := 84) dX8_findWays_81 rfl (by decide) rfl (ii1 _) rfl (st_s (st_0)) ?_
        refine X_goto (tgt := 10) dX8_findWays_84 rfl ?_
        refine ih (R + 1) D2 (by omega) (by omega) ((hq.tr (Fq.up rfl)).tr g1) ⟨g2.1, fun x a b => ?_⟩
        obtain ⟨R', rfl⟩ : ∃ R', R = R' + 1 := ⟨R - 1, by omega⟩
        by_cases e : x = R' + 1
        · subst e
          rw [g3, ← wyP_cut hV]
          show _ = opI (if R' + 1 = R' + 1 then _ else _)
          rw [if_pos rfl]; rfl
        · rw [g2.2 x a (by omega)]
          show _ = opI (wy B (R' + 1) x)
          rw [wy_lo (by omega)]; rfl
theorem sp_X8_findWays {B : Bk} {K F : Nat → Nat} {D : Mem} (h : RB D B (th_ B) K F) (hV : VB B) : Rvx 1 j_X8_findWays [.ref 104] D (fun D' => Fq WYF D D' ∧ WYS B D' 3) := by
  refine E.start 2 (ls := [some (.ref 104), none, none]) (by decide +kernel) (Nat.le_of_ble_eq_true rfl) rfl (Nat.le_refl _) (Nat.le_refl _) ?_
  refine X_aload_n (nx := 1) dX8_findWays_0 rfl rfl rfl ?_
  refine M_getP (nx := 4) dX8_findWays_1 rfl fl_RX8_100 rfl (by first | assumption | rfl | decide | omega) (by first | assumption | rfl | decide | omega) (by first | assumption | rfl | decide | omega) ?_
  refine X_iconst (v := nI 0) (nx := 5) dX8_findWays_4 rfl rfl ?_
  refine X_bipush (v := 10) (nx := 7) dX8_findWays_5 rfl rfl ?_
  refine M_st (a := 135) (L := 3) (nx := 8) dX8_findWays_7 rfl (by decide) (by decide) rfl (by decide) (by omega) ?_
  refine X_iconst (v := nI 1) (nx := 9) dX8_findWays_8 rfl rfl ?_
  refine X_istore_n (i := 1) (nx := 10) dX8_findWays_9 rfl rfl (by decide) rfl (st_s (st_0)) ?_
  exact lp_ways2_out h hV 2 1 _ rfl (Nat.le_refl _) (Fq.up rfl) ⟨up2_same, fun x a b => absurd a (by omega)⟩
theorem bw_n {B : Bk} {g : Nat → Nat} {R : Nat} (h0 : ¬ R = 0) (h : wy B 2 R = none) : bwS B g R = (false, []) := by unfold bwS; rw [if_neg h0, h]
theorem bw_0 {B : Bk} {g : Nat → Nat} : bwS B g 0 = (true, []) := if_pos rfl
theorem bw_1 {B : Bk} {g : Nat → Nat} {R m : Nat} (h0 : ¬ R = 0) (h : wy B 2 R = some m) (h1 : ro_ B m = 0) : bwS B g R = bdS B g m (true, []) := by unfold bwS; rw [if_neg h0, h]; dsimp only; rw [if_pos h1]
theorem bw_2 {B : Bk} {g : Nat → Nat} {R m m2 : Nat} (h0 : ¬ R = 0) (h : wy B 2 R = some m) (h1 : ¬ ro_ B m = 0) (h2 : wy B 2 (ro_ B m) = some m2) : bwS B g R = bdS B g m (bdS B g m2 (true, [])) := by unfold bwS; rw [if_neg h0, h]; dsimp only; rw [if_neg h1, h2]
theorem bd_len {B : Bk} (hV : VB B) {g : Nat → Nat} {r : Nat} {t : Bool × List Nat} (hr : r < cm_ B) : (bdS B g r t).2.length ≤ t.2.length + 4 := by
  show (t.2 ++ lts (sg_ B r) g 0 (pl (sg_ B r))).length ≤ _
  rw [List.length_append, lts_len]
  have := pl_le (sg_ B r)
  have := sgl_le hV hr
  omega
theorem bst_0 {D : Mem} {ok : Bool} (h1 : D 104 47 = b2i ok) (h2 : D 104 46 = 0) : BST D ok [] := ⟨h1, h2, fun k hk => absurd hk (Nat.not_lt_zero _), Nat.zero_le _, fun x hx => absurd hx List.not_mem_nil⟩
theorem GV2.fq {D D' : Mem} {g : Nat → Nat} (h : GV2 D g) (hf : D' 133 = D 133) : GV2 D' g := by unfold GV2; rw [hf]; exact h
theorem WYS.fq {B : Bk} {D D' : Mem} {R : Nat} (h : WYS B D R) (hf : D' 135 = D 135) : WYS B D' R := by unfold WYS; rw [hf]; exact h
theorem dX8_buildsWay_0 : decode cX8_buildsWay 0 = .ok (.aload_n 0, 1) := by decide +kernel
theorem dX8_buildsWay_1 : decode cX8_buildsWay 1 = .ok (.getfield 100, 3) := by decide +kernel
theorem dX8_buildsWay_4 : decode cX8_buildsWay 4 = .ok (.iload_n 1, 1) := by decide +kernel
theorem dX8_buildsWay_5 : decode cX8_buildsWay 5 = .ok (.iaload, 1) := by decide +kernel
theorem dX8_buildsWay_6 : decode cX8_buildsWay 6 = .ok (.istore_n 2, 1) := by decide +kernel
theorem dX8_buildsWay_7 : decode cX8_buildsWay 7 = .ok (.iload_n 2, 1) := by decide +kernel
theorem dX8_buildsWay_8 : decode cX8_buildsWay 8 = .ok (.ifCond .ge 8, 3) := by decide +kernel
theorem dX8_buildsWay_11 : decode cX8_buildsWay 11 = .ok (.aload_n 0, 1) := by decide +kernel
theorem dX8_buildsWay_12 : decode cX8_buildsWay 12 = .ok (.iconst 0, 1) := by decide +kernel
theorem dX8_buildsWay_13 : decode cX8_buildsWay 13 = .ok (.putfield 341, 3) := by decide +kernel
theorem dX8_buildsWay_16 : decode cX8_buildsWay 16 = .ok (.iload_n 2, 1) := by decide +kernel
theorem dX8_buildsWay_17 : decode cX8_buildsWay 17 = .ok (.ifCond .lt 9, 3) := by decide +kernel
theorem dX8_buildsWay_20 : decode cX8_buildsWay 20 = .ok (.iload_n 2, 1) := by decide +kernel
theorem dX8_buildsWay_21 : decode cX8_buildsWay 21 = .ok (.bipush 10, 2) := by decide +kernel
theorem dX8_buildsWay_23 : decode cX8_buildsWay 23 = .ok (.if_icmp .ne 4, 3) := by decide +kernel
theorem dX8_buildsWay_26 : decode cX8_buildsWay 26 = .ok (.return_, 1) := by decide +kernel
theorem dX8_buildsWay_27 : decode cX8_buildsWay 27 = .ok (.aload_n 0, 1) := by decide +kernel
theorem dX8_buildsWay_28 : decode cX8_buildsWay 28 = .ok (.getfield 22, 3) := by decide +kernel
theorem dX8_buildsWay_31 : decode cX8_buildsWay 31 = .ok (.iload_n 2, 1) := by decide +kernel
theorem dX8_buildsWay_32 : decode cX8_buildsWay 32 = .ok (.iaload, 1) := by decide +kernel
theorem dX8_buildsWay_33 : decode cX8_buildsWay 33 = .ok (.istore_n 3, 1) := by decide +kernel
theorem dX8_buildsWay_34 : decode cX8_buildsWay 34 = .ok (.iload_n 3, 1) := by decide +kernel
theorem dX8_buildsWay_35 : decode cX8_buildsWay 35 = .ok (.ifCond .le 13, 3) := by decide +kernel
theorem dX8_buildsWay_38 : decode cX8_buildsWay 38 = .ok (.aload_n 0, 1) := by decide +kernel
theorem dX8_buildsWay_39 : decode cX8_buildsWay 39 = .ok (.aload_n 0, 1) := by decide +kernel
theorem dX8_buildsWay_40 : decode cX8_buildsWay 40 = .ok (.getfield 100, 3) := by decide +kernel
theorem dX8_buildsWay_43 : decode cX8_buildsWay 43 = .ok (.iload_n 3, 1) := by decide +kernel
theorem dX8_buildsWay_44 : decode cX8_buildsWay 44 = .ok (.iaload, 1) := by decide +kernel
theorem dX8_buildsWay_45 : decode cX8_buildsWay 45 = .ok (.invokevirtual 347, 3) := by decide +kernel
theorem dX8_buildsWay_48 : decode cX8_buildsWay 48 = .ok (.aload_n 0, 1) := by decide +kernel
theorem dX8_buildsWay_49 : decode cX8_buildsWay 49 = .ok (.iload_n 2, 1) := by decide +kernel
theorem dX8_buildsWay_50 : decode cX8_buildsWay 50 = .ok (.invokevirtual 347, 3) := by decide +kernel
theorem dX8_buildsWay_53 : decode cX8_buildsWay 53 = .ok (.return_, 1) := by decide +kernel
theorem sp_X8_buildsWay {R : Nat} {x : Int32} {g : Nat → Nat} {B : Bk} {K F : Nat → Nat} {D : Mem} (h : RB D B (th_ B) K F) (hV : VB B) (hg : GV2 D g) (hw : WYS B D 3) (h47 : D 104 47 = 1) (h46 : D 104 46 = 0) (hx : x = nI R) (hR : R < 3) : Rvx 3 j_X8_buildsWay [.ref 104, .int x] D (fun D' => BST D' (bwS B g R).1 (bwS B g R).2 ∧ (bwS B g R).2.length ≤ 8 ∧ Fq SBD D D') := by
  refine E.start 2 (ls := [some (.ref 104), some (.int x), none, none]) (by decide +kernel) (Nat.le_of_ble_eq_true rfl) rfl (Nat.le_refl _) (Nat.le_refl _) ?_
  subst hx
  obtain ⟨hB1, hB2, hB3⟩ := id h
  have hcm := hV.2.1
  refine X_aload_n (nx := 1) dX8_buildsWay_0 rfl rfl rfl ?_
  refine M_getP (nx := 4) dX8_buildsWay_1 rfl fl_RX8_100 rfl (by first | assumption | rfl | decide | omega) (by first | assumption | rfl | decide | omega) (by first | assumption | rfl | decide | omega) ?_
  refine X_iload_n (nx := 5) dX8_buildsWay_4 rfl rfl rfl ?_
  refine M_ld (a := 135) (L := 3) (nx := 6) dX8_buildsWay_5 rfl (by decide) (by decide) rfl (by decide) (by omega) (rfl) ?_
  by_cases h0 : R = 0
  · subst h0
    refine X_top (hw.1) ?_
    refine X_istore_n (i := 2) (nx := 7) dX8_buildsWay_6 rfl rfl (by decide) rfl (st_s (st_s (st_0))) ?_
    refine X_iload_n (nx := 8) dX8_buildsWay_7 rfl rfl rfl ?_
    refine X_if_ge (tgt := 16) (nx := 11) dX8_buildsWay_8 rfl rfl (fun h8 => ?_) (fun h8 => ?_)
    · skip
      refine X_iload_n (nx := 17) dX8_buildsWay_16 rfl rfl rfl ?_
      refine X_if_lt (tgt := 26) (nx := 20) dX8_buildsWay_17 rfl rfl (fun h17 => ?_) (fun h17 => ?_)
      · exact absurd h17 (by decide)
      · skip
        refine X_iload_n (nx := 21) dX8_buildsWay_20 rfl rfl rfl ?_
        refine X_bipush (v := 10) (nx := 23) dX8_buildsWay_21 rfl rfl ?_
        refine X_icmp_ne (tgt := 27) (nx := 26) dX8_buildsWay_23 rfl rfl (fun h23 => ?_) (fun h23 => ?_)
        · exact absurd h23 (by decide)
        · skip
          exact Z_retv dX8_buildsWay_26 rfl (by rw [bw_0]; exact ⟨bst_0 h47 h46, Nat.zero_le _, Fq.rf⟩)
    · exact absurd h8 (by decide)
  · refine X_top (hw.2 R (by omega) hR) ?_
    cases hy : wy B 2 R with
    | none =>
      show X 3 138 j_X8_buildsWay 6 _ [.int (-9)] (138, P0, D) _
      refine X_istore_n (i := 2) (nx := 7) dX8_buildsWay_6 rfl rfl (by decide) rfl (st_s (st_s (st_0))) ?_
      refine X_iload_n (nx := 8) dX8_buildsWay_7 rfl rfl rfl ?_
      refine X_if_ge (tgt := 16) (nx := 11) dX8_buildsWay_8 rfl rfl (fun h8 => ?_) (fun h8 => ?_)
      · exact absurd h8 (by decide)
      · skip
        refine X_aload_n (nx := 12) dX8_buildsWay_11 rfl rfl rfl ?_
        refine X_iconst (v := 0) (nx := 13) dX8_buildsWay_12 rfl rfl ?_
        refine M_putZ (nx := 16) dX8_buildsWay_13 rfl fl_RX8_341 rfl rfl (Or.inl rfl) (by first | assumption | rfl | decide | omega) (by first | assumption | rfl | decide | omega) ?_
        refine X_iload_n (nx := 17) dX8_buildsWay_16 rfl rfl rfl ?_
        refine X_if_lt (tgt := 26) (nx := 20) dX8_buildsWay_17 rfl rfl (fun h17 => ?_) (fun h17 => ?_)
        · skip
          exact Z_retv dX8_buildsWay_26 rfl (by rw [bw_n h0 hy]; exact ⟨bst_0 up2_same ((up2_other (by omega)).trans h46), Nat.zero_le _, Fq.up (by unfold SBD; omega)⟩)
        · exact absurd h17 (by decide)
    | some m =>
      show X 3 138 j_X8_buildsWay 6 _ [.int (nI m)] (138, P0, D) _
      obtain ⟨u1, u2, u3, u4⟩ := wy_use hV hR hy
      have hb0 : BST D true [] := bst_0 h47 h46
      by_cases h1 : ro_ B m = 0
      · skip
        refine X_istore_n (i := 2) (nx := 7) dX8_buildsWay_6 rfl rfl (by decide) rfl (st_s (st_s (st_0))) ?_
        refine X_iload_n (nx := 8) dX8_buildsWay_7 rfl rfl rfl ?_
        refine X_if_ge (tgt := 16) (nx := 11) dX8_buildsWay_8 rfl rfl (fun h8 => ?_) (fun h8 => ?_)
        · skip
          refine X_iload_n (nx := 17) dX8_buildsWay_16 rfl rfl rfl ?_
          refine X_if_lt (tgt := 26) (nx := 20) dX8_buildsWay_17 rfl rfl (fun h17 => ?_) (fun h17 => ?_)
          · exact absurd h17 (nI_neg (by omega))
          · skip
            refine X_iload_n (nx := 21) dX8_buildsWay_20 rfl rfl rfl ?_
            refine X_bipush (v := nI 10) (nx := 23) dX8_buildsWay_21 rfl rfl ?_
            refine X_icmp_ne (tgt := 27) (nx := 26) dX8_buildsWay_23 rfl rfl (fun h23 => ?_) (fun h23 => ?_)
            · skip
              refine X_aload_n (nx := 28) dX8_buildsWay_27 rfl rfl rfl ?_
              refine M_getP (nx := 31) dX8_buildsWay_28 rfl fl_RX8_22 rfl (by first | assumption | rfl | decide | omega) (by first | assumption | rfl | decide | omega) (by first | assumption | rfl | decide | omega) ?_
              refine X_iload_n (nx := 32) dX8_buildsWay_31 rfl rfl rfl ?_
              refine M_ld (a := 109) (L := 10) (nx := 33) dX8_buildsWay_32 rfl (by decide) (by decide) rfl (by decide) (by omega) ((hB3 m u2).2.1) ?_
              refine X_istore_n (i := 3) (nx := 34) dX8_buildsWay_33 rfl rfl (by decide) rfl (st_s (st_s (st_s (st_0)))) ?_
              refine X_iload_n (nx := 35) dX8_buildsWay_34 rfl rfl rfl ?_
              refine X_if_le (tgt := 48) (nx := 38) dX8_buildsWay_35 rfl rfl (fun h35 => ?_) (fun h35 => ?_)
              · skip
                refine X_aload_n (nx := 49) dX8_buildsWay_48 rfl rfl rfl ?_
                refine X_iload_n (nx := 50) dX8_buildsWay_49 rfl rfl rfl ?_
                refine Z_Vv1 (nx := 53) dX8_buildsWay_50 rfl ml_RX8_347 kj_X8_builds kv_X8_builds (sp_X8_builds (t := (true, [])) h hV hg rfl u2 hb0 (Nat.zero_le _)) (by first | assumption | rfl | decide | omega) (by first | assumption | rfl | decide | omega) (by decide) rfl (by first | decide | omega) (by exact Nat.le_of_ble_eq_true rfl) (fun D50 g50 => ?_)
                exact Z_retv dX8_buildsWay_53 rfl (by rw [bw_1 h0 hy h1]; have := bd_len hV (g := g) (t := (true, [])) u2; exact ⟨g50.1, by have e : (([] : List Nat)).length = 0 := rfl; simp only [e] at this; omega, g50.2⟩)
              · exact absurd h35 (fun q => q (by rw [h1]; decide))
            · exact absurd h23 (by rw [nI_eq (by omega) (by omega)]; omega)
        · exact absurd h8 (fun q => q (nI_pos' (by omega)))
      · obtain ⟨m2, hm2⟩ := u4.resolve_left h1
        obtain ⟨w1, w2, w3, w4⟩ := wy_use hV (by omega) hm2
        have hw2 := hw.2 (ro_ B m) (by omega) (by omega)
        have hm2' : wy B (3 - 1) (ro_ B m) = some m2 := hm2
        rw [hm2'] at hw2
        have hw2 : D 135 (ro_ B m) = nI m2 := hw2
        refine X_istore_n (i := 2) (nx := 7) dX8_buildsWay_6 rfl rfl (by decide) rfl (st_s (st_s (st_0))) ?_
        refine X_iload_n (nx := 8) dX8_buildsWay_7 rfl rfl rfl ?_
        refine X_if_ge (tgt := 16) (nx := 11) dX8_buildsWay_8 rfl rfl (fun h8 => ?_) (fun h8 => ?_)
        · skip
          refine X_iload_n (nx := 17) dX8_buildsWay_16 rfl rfl rfl ?_
          refine X_if_lt (tgt := 26) (nx := 20) dX8_buildsWay_17 rfl rfl (fun h17 => ?_) (fun h17 => ?_)
          · exact absurd h17 (nI_neg (by omega))
          · skip
            refine X_iload_n (nx := 21) dX8_buildsWay_20 rfl rfl rfl ?_
            refine X_bipush (v := nI 10) (nx := 23) dX8_buildsWay_21 rfl rfl ?_
            refine X_icmp_ne (tgt := 27) (nx := 26) dX8_buildsWay_23 rfl rfl (fun h23 => ?_) (fun h23 => ?_)
            · skip
              refine X_aload_n (nx := 28) dX8_buildsWay_27 rfl rfl rfl ?_
              refine M_getP (nx := 31) dX8_buildsWay_28 rfl fl_RX8_22 rfl (by first | assumption | rfl | decide | omega) (by first | assumption | rfl | decide | omega) (by first | assumption | rfl | decide | omega) ?_
              refine X_iload_n (nx := 32) dX8_buildsWay_31 rfl rfl rfl ?_
              refine M_ld (a := 109) (L := 10) (nx := 33) dX8_buildsWay_32 rfl (by decide) (by decide) rfl (by decide) (by omega) ((hB3 m u2).2.1) ?_
              refine X_istore_n (i := 3) (nx := 34) dX8_buildsWay_33 rfl rfl (by decide) rfl (st_s (st_s (st_s (st_0)))) ?_
              refine X_iload_n (nx := 35) dX8_buildsWay_34 rfl rfl rfl ?_
              refine X_if_le (tgt := 48) (nx := 38) dX8_buildsWay_35 rfl rfl (fun h35 => ?_) (fun h35 => ?_)
              · exact absurd h35 (fun q => nI_ne0 (n := ro_ B m) (by omega) (by omega) (Int32.le_antisymm q (nI_pos' (by omega))))
              · skip
                refine X_aload_n (nx := 39) dX8_buildsWay_38 rfl rfl rfl ?_
                refine X_aload_n (nx := 40) dX8_buildsWay_39 rfl rfl rfl ?_
                refine M_getP (nx := 43) dX8_buildsWay_40 rfl fl_RX8_100 rfl (by first | assumption | rfl | decide | omega) (by first | assumption | rfl | decide | omega) (by first | assumption | rfl | decide | omega) ?_
                refine X_iload_n (nx := 44) dX8_buildsWay_43 rfl rfl rfl ?_
                refine M_ld (a := 135) (L := 3) (nx := 45) dX8_buildsWay_44 rfl (by decide) (by decide) rfl (by decide) (by omega) (hw2) ?_
                refine Z_Vv1 (nx := 48) dX8_buildsWay_45 rfl ml_RX8_347 kj_X8_builds kv_X8_builds (sp_X8_builds (t := (true, [])) h hV hg rfl w2 hb0 (Nat.zero_le _)) (by first | assumption | rfl | decide | omega) (by first | assumption | rfl | decide | omega) (by decide) rfl (by first | decide | omega) (by exact Nat.le_of_ble_eq_true rfl) (fun D45 g45 => ?_)
                have hB9 := h.fq (g45.2.mono (fun b i q => by unfold SBD at q; unfold SCR; omega))
                have hg9 : GV2 D45 g := hg.fq (g45.2.row (fun i => by unfold SBD; omega))
                refine X_aload_n (nx := 49) dX8_buildsWay_48 rfl rfl rfl ?_
                refine X_iload_n (nx := 50) dX8_buildsWay_49 rfl rfl rfl ?_
                refine Z_Vv1 (nx := 53) dX8_buildsWay_50 rfl ml_RX8_347 kj_X8_builds kv_X8_builds (sp_X8_builds (t := bdS B g m2 (true, [])) hB9 hV hg9 rfl u2 g45.1 (by have := bd_len hV (g := g) (t := (true, [])) w2; have e : (([] : List Nat)).length = 0 := rfl; simp only [e] at this; omega)) (by first | assumption | rfl | decide | omega) (by first | assumption | rfl | decide | omega) (by decide) rfl (by first | decide | omega) (by exact Nat.le_of_ble_eq_true rfl) (fun D50 g50 => ?_)
                exact Z_retv dX8_buildsWay_53 rfl (by rw [bw_2 h0 hy h1 hm2]; have a1 := bd_len hV (g := g) (t := (true, [])) w2; have a2 := bd_len hV (g := g) (t := bdS B g m2 (true, [])) u2; exact ⟨g50.1, by have e : (([] : List Nat)).length = 0 := rfl; simp only [e] at a1; omega, g45.2.tr g50.2⟩)
            · exact absurd h23 (by rw [nI_eq (by omega) (by omega)]; omega)
        · exact absurd h8 (fun q => q (nI_pos' (by omega)))
