/-! THE REFERENCE: clash -/
theorem alk_bal {B : Bk} {a b : Nat} (ha : VS (sg_ B a)) (hb : VS (sg_ B b)) : (decide ((sg_ B a).length = (sg_ B b).length) && bal B a b (sg_ B a).length) = alk (sg_ B a) (sg_ B b) := by
  have hpa := pl_le (sg_ B a)
  have hpb := pl_le (sg_ B b)
  rw [Bool.eq_iff_iff]
  unfold alk bal
  simp only [Bool.and_eq_true, decide_eq_true_eq, alB_t]
  constructor
  · rintro ⟨h1, ⟨h2, h3⟩, h4⟩
    have key : pl (sg_ B a) = pl (sg_ B b) := by
      rcases VS_cut ha with q | ⟨q, q2⟩ <;> rcases VS_cut hb with w | ⟨w, w2⟩
      · omega
      · exfalso
        have h5 := of_decide_eq_true (h4 (pl (sg_ B b)) (Nat.zero_le _) (by omega))
        rw [w2] at h5
        have hv := ha.plain (k := pl (sg_ B b)) (by omega)
        have h6 := typ_l7 hv.1 hv.2
        rw [h5] at h6
        exact absurd h6 (by decide)
      · exfalso
        have h5 := of_decide_eq_true (h4 (pl (sg_ B a)) (Nat.zero_le _) (by omega))
        rw [q2] at h5
        have hv := hb.plain (k := pl (sg_ B a)) (by omega)
        have h6 := typ_l7 hv.1 hv.2
        rw [← h5] at h6
        exact absurd h6 (by decide)
      · omega
    exact ⟨⟨h1, key⟩, fun x hx hx2 => h4 x hx (by omega)⟩
  · rintro ⟨⟨h1, h2⟩, h3⟩
    refine ⟨h1, ⟨Nat.le_refl _, by omega⟩, fun x hx hx2 => ?_⟩
    by_cases e : x < pl (sg_ B a)
    · exact h3 x hx (by omega)
    · rcases VS_cut ha with q | ⟨q, q2⟩
      · omega
      · rcases VS_cut hb with w | ⟨w, w2⟩
        · omega
        · refine decide_eq_true ?_
          rw [show x = pl (sg_ B a) by omega, q2, h2, w2]
theorem cls_out {B : Bk} {i j : Nat} (h : ¬ j < cm_ B) : clsB B i j = false := by
  unfold clsB
  rw [show thN B j = false by unfold thN; rw [decide_eq_false h]; rfl]
  simp
theorem cls_out1 {B : Bk} {i j : Nat} (h : ¬ i < cm_ B) : clsB B i j = false := by
  unfold clsB
  rw [show thN B i = false by unfold thN; rw [decide_eq_false h]; rfl]
  rfl
theorem cn_ext {P : Nat → Bool} {c n : Nat} (hc : c ≤ n) (h : ∀ k, c ≤ k → k < n → P k = false) : cn P c = cn P n :=
  sumN_ext n hc (fun _ _ => rfl) (fun k a b => if_neg (by rw [h k a b]; decide))
theorem inn_cut {B : Bk} (hV : VB B) {i : Nat} (hi : i < cm_ B) : inn B i (cm_ B - (i + 1)) = inn B i (9 - i) := by
  have hc := hV.2.1
  exact cn_ext (by omega) (fun k a b => cls_out (by omega))
theorem ls_cut {B : Bk} (hV : VB B) {i : Nat} (hi : i < cm_ B) : lsI B i (cm_ B - (i + 1)) = lsI B i (9 - i) := by
  unfold lsI; rw [inn_cut hV hi]
theorem inn_0 {B : Bk} {i n : Nat} (hi : ¬ i < cm_ B) : inn B i n = 0 := (cn_ext (c := 0) (n := n) (Nat.zero_le _) (fun k _ _ => cls_out1 hi)).symm
theorem cm_cut {B : Bk} (hV : VB B) : cMany B (cm_ B) = cMany B 10 := sumN_ext 10 hV.2.1 (fun _ _ => rfl) (fun k a _ => inn_0 (by omega))
theorem ls_cut2 {B : Bk} (hV : VB B) : lsI B (cm_ B) 0 = opI (fst_ (cfP B) 0 10) := by
  rw [← ls_end]
  unfold lsI
  rw [fst_cut (p := cfP B) (c := cm_ B) (n := 10) hV.2.1 (fun x h1 _ => decide_eq_false (fun q => q (inn_0 (by omega))))]
  cases fst_ (cfP B) 0 (cm_ B) with
  | some z => rfl
  | none => dsimp only; rw [show inn B (cm_ B) 0 = 0 from rfl, show inn B 10 0 = 0 from rfl, if_pos rfl, if_pos rfl]
theorem ls_sgn {B : Bk} {i k : Nat} (hi : i < 10) (hk : k < 10) : (0 ≤ lsI B i k → ¬ nI (cMany B i + inn B i k) = 0) ∧ (¬ 0 ≤ lsI B i k → nI (cMany B i + inn B i k) = 0) := by
  have b1 := cMany_le B i
  have b2 := inn_le B i k
  rw [nI_0' (by omega)]
  unfold lsI
  cases hf : fst_ (cfP B) 0 i with
  | some z =>
    have hz := (fst_some hf).2.1
    have h0 : cMany B i ≠ 0 := fun q => by rw [(cMany_0 B i).mp q] at hf; cases hf
    exact ⟨fun _ => by omega, fun q => absurd (show (0 : Int32) ≤ nI z from nI_pos' (by omega)) q⟩
  | none =>
    have h0 := (cMany_0 B i).mpr hf
    dsimp only
    by_cases e : inn B i k = 0
    · rw [if_pos e]; exact ⟨fun q => absurd q (by decide), fun _ => by omega⟩
    · rw [if_neg e]; exact ⟨fun _ => by omega, fun q => absurd (nI_pos' (by omega)) q⟩
theorem dX8_doClash_0 : decode cX8_doClash 0 = .ok (.aload_n 0, 1) := by decide +kernel
theorem dX8_doClash_1 : decode cX8_doClash 1 = .ok (.getfield 19, 3) := by decide +kernel
theorem dX8_doClash_4 : decode cX8_doClash 4 = .ok (.iload_n 1, 1) := by decide +kernel
theorem dX8_doClash_5 : decode cX8_doClash 5 = .ok (.iaload, 1) := by decide +kernel
theorem dX8_doClash_6 : decode cX8_doClash 6 = .ok (.ifCond .eq 43, 3) := by decide +kernel
theorem dX8_doClash_9 : decode cX8_doClash 9 = .ok (.aload_n 0, 1) := by decide +kernel
theorem dX8_doClash_10 : decode cX8_doClash 10 = .ok (.getfield 19, 3) := by decide +kernel
theorem dX8_doClash_13 : decode cX8_doClash 13 = .ok (.iload_n 2, 1) := by decide +kernel
theorem dX8_doClash_14 : decode cX8_doClash 14 = .ok (.iaload, 1) := by decide +kernel
theorem dX8_doClash_15 : decode cX8_doClash 15 = .ok (.ifCond .eq 34, 3) := by decide +kernel
theorem dX8_doClash_18 : decode cX8_doClash 18 = .ok (.aload_n 0, 1) := by decide +kernel
theorem dX8_doClash_19 : decode cX8_doClash 19 = .ok (.iload_n 1, 1) := by decide +kernel
theorem dX8_doClash_20 : decode cX8_doClash 20 = .ok (.invokevirtual 127, 3) := by decide +kernel
theorem dX8_doClash_23 : decode cX8_doClash 23 = .ok (.ifCond .ne 26, 3) := by decide +kernel
theorem dX8_doClash_26 : decode cX8_doClash 26 = .ok (.aload_n 0, 1) := by decide +kernel
theorem dX8_doClash_27 : decode cX8_doClash 27 = .ok (.iload_n 2, 1) := by decide +kernel
theorem dX8_doClash_28 : decode cX8_doClash 28 = .ok (.invokevirtual 127, 3) := by decide +kernel
theorem dX8_doClash_31 : decode cX8_doClash 31 = .ok (.ifCond .ne 18, 3) := by decide +kernel
theorem dX8_doClash_34 : decode cX8_doClash 34 = .ok (.aload_n 0, 1) := by decide +kernel
theorem dX8_doClash_35 : decode cX8_doClash 35 = .ok (.getfield 22, 3) := by decide +kernel
theorem dX8_doClash_38 : decode cX8_doClash 38 = .ok (.iload_n 1, 1) := by decide +kernel
theorem dX8_doClash_39 : decode cX8_doClash 39 = .ok (.iaload, 1) := by decide +kernel
theorem dX8_doClash_40 : decode cX8_doClash 40 = .ok (.aload_n 0, 1) := by decide +kernel
theorem dX8_doClash_41 : decode cX8_doClash 41 = .ok (.getfield 22, 3) := by decide +kernel
theorem dX8_doClash_44 : decode cX8_doClash 44 = .ok (.iload_n 2, 1) := by decide +kernel
theorem dX8_doClash_45 : decode cX8_doClash 45 = .ok (.iaload, 1) := by decide +kernel
theorem dX8_doClash_46 : decode cX8_doClash 46 = .ok (.if_icmp .eq 5, 3) := by decide +kernel
theorem dX8_doClash_49 : decode cX8_doClash 49 = .ok (.iconst 0, 1) := by decide +kernel
theorem dX8_doClash_50 : decode cX8_doClash 50 = .ok (.ireturn, 1) := by decide +kernel
theorem dX8_doClash_51 : decode cX8_doClash 51 = .ok (.aload_n 0, 1) := by decide +kernel
theorem dX8_doClash_52 : decode cX8_doClash 52 = .ok (.getfield 31, 3) := by decide +kernel
theorem dX8_doClash_55 : decode cX8_doClash 55 = .ok (.iload_n 1, 1) := by decide +kernel
theorem dX8_doClash_56 : decode cX8_doClash 56 = .ok (.iaload, 1) := by decide +kernel
theorem dX8_doClash_57 : decode cX8_doClash 57 = .ok (.aload_n 0, 1) := by decide +kernel
theorem dX8_doClash_58 : decode cX8_doClash 58 = .ok (.getfield 31, 3) := by decide +kernel
theorem dX8_doClash_61 : decode cX8_doClash 61 = .ok (.iload_n 2, 1) := by decide +kernel
theorem dX8_doClash_62 : decode cX8_doClash 62 = .ok (.iaload, 1) := by decide +kernel
theorem dX8_doClash_63 : decode cX8_doClash 63 = .ok (.if_icmp .ne 46, 3) := by decide +kernel
theorem dX8_doClash_66 : decode cX8_doClash 66 = .ok (.aload_n 0, 1) := by decide +kernel
theorem dX8_doClash_67 : decode cX8_doClash 67 = .ok (.iload_n 1, 1) := by decide +kernel
theorem dX8_doClash_68 : decode cX8_doClash 68 = .ok (.iload_n 2, 1) := by decide +kernel
theorem dX8_doClash_69 : decode cX8_doClash 69 = .ok (.aload_n 0, 1) := by decide +kernel
theorem dX8_doClash_70 : decode cX8_doClash 70 = .ok (.getfield 31, 3) := by decide +kernel
theorem dX8_doClash_73 : decode cX8_doClash 73 = .ok (.iload_n 1, 1) := by decide +kernel
theorem dX8_doClash_74 : decode cX8_doClash 74 = .ok (.iaload, 1) := by decide +kernel
theorem dX8_doClash_75 : decode cX8_doClash 75 = .ok (.invokevirtual 299, 3) := by decide +kernel
theorem dX8_doClash_78 : decode cX8_doClash 78 = .ok (.ifCond .eq 31, 3) := by decide +kernel
theorem dX8_doClash_81 : decode cX8_doClash 81 = .ok (.getstatic 131, 3) := by decide +kernel
theorem dX8_doClash_84 : decode cX8_doClash 84 = .ok (.aload_n 0, 1) := by decide +kernel
theorem dX8_doClash_85 : decode cX8_doClash 85 = .ok (.getfield 25, 3) := by decide +kernel
theorem dX8_doClash_88 : decode cX8_doClash 88 = .ok (.iload_n 1, 1) := by decide +kernel
theorem dX8_doClash_89 : decode cX8_doClash 89 = .ok (.iaload, 1) := by decide +kernel
theorem dX8_doClash_90 : decode cX8_doClash 90 = .ok (.iaload, 1) := by decide +kernel
theorem dX8_doClash_91 : decode cX8_doClash 91 = .ok (.getstatic 131, 3) := by decide +kernel
theorem dX8_doClash_94 : decode cX8_doClash 94 = .ok (.aload_n 0, 1) := by decide +kernel
theorem dX8_doClash_95 : decode cX8_doClash 95 = .ok (.getfield 25, 3) := by decide +kernel
theorem dX8_doClash_98 : decode cX8_doClash 98 = .ok (.iload_n 2, 1) := by decide +kernel
theorem dX8_doClash_99 : decode cX8_doClash 99 = .ok (.iaload, 1) := by decide +kernel
theorem dX8_doClash_100 : decode cX8_doClash 100 = .ok (.iaload, 1) := by decide +kernel
theorem dX8_doClash_101 : decode cX8_doClash 101 = .ok (.iand, 1) := by decide +kernel
theorem dX8_doClash_102 : decode cX8_doClash 102 = .ok (.ifCond .eq 7, 3) := by decide +kernel
theorem dX8_doClash_105 : decode cX8_doClash 105 = .ok (.iconst 1, 1) := by decide +kernel
theorem dX8_doClash_106 : decode cX8_doClash 106 = .ok (.goto 4, 3) := by decide +kernel
theorem dX8_doClash_109 : decode cX8_doClash 109 = .ok (.iconst 0, 1) := by decide +kernel
theorem dX8_doClash_110 : decode cX8_doClash 110 = .ok (.ireturn, 1) := by decide +kernel
theorem sp_X8_doClash {a b : Nat} {x y : Int32} {B : Bk} {K F : Nat → Nat} {D : Mem} (h : RB D B (th_ B) K F) (hV : VB B) (hx : x = nI a) (ha : a < cm_ B) (hy : y = nI b) (hb : b < cm_ B) : Ei 3 j_X8_doClash [.ref 104, .int x, .int y] D (b2i (clsB B a b)) (D) := by
  refine E.start 0 (ls := [some (.ref 104), some (.int x), some (.int y)]) (by decide +kernel) (Nat.le_of_ble_eq_true rfl) rfl (Nat.le_refl _) (Nat.le_refl _) ?_
  subst hx; subst hy
  obtain ⟨hB1, hB2, hB3⟩ := id h
  have hcm := hV.2.1
  have hak := (alk_bal (hV.2.2 a ha).2.1 (hV.2.2 b hb).2.1).symm
  have ra := (hV.2.2 a ha).1
  have rb := (hV.2.2 b hb).1
  have la := sgl_le hV ha
  have lb := sgl_le hV hb
  refine X_aload_n (nx := 1) dX8_doClash_0 rfl rfl rfl ?_
  refine M_getP (nx := 4) dX8_doClash_1 rfl fl_RX8_19 rfl (by first | assumption | rfl | decide | omega) (by first | assumption | rfl | decide | omega) (by first | assumption | rfl | decide | omega) ?_
  refine X_iload_n (nx := 5) dX8_doClash_4 rfl rfl rfl ?_
  refine M_ld (a := 108) (L := 10) (nx := 6) dX8_doClash_5 rfl (by decide) (by decide) rfl (by decide) (by omega) ((hB3 a ha).1) ?_
  refine X_if_eq (tgt := 49) (nx := 9) dX8_doClash_6 rfl rfl (fun h6 => ?_) (fun h6 => ?_)
  · skip
    have e6 := b2i_f.mp h6
    refine X_iconst (v := 0) (nx := 50) dX8_doClash_49 rfl rfl ?_
    exact Y_reti dX8_doClash_50 (Or.inr ⟨rfl, by first | exact Or.inl rfl | exact Or.inr rfl | exact b2i_01 _ | assumption⟩) (by unfold clsB thN; rw [decide_eq_true ha, decide_eq_true hb]; first | (rw [e6]; rfl) | (rw [e6, e15]; rfl) | (rw [e6, e15, e23]; rfl) | (rw [e6, e15, e23, e31]; rfl) | (rw [e6, e15, e23, e31, decide_eq_false h46]; rfl) | (rw [e6, e15, e23, e31, decide_eq_true h46, hak, decide_eq_false h63]; rfl) | (rw [e6, e15, e23, e31, decide_eq_true h46, hak, decide_eq_true h63, e78]; rfl) | (rw [e6, e15, e23, e31, decide_eq_true h46, hak, decide_eq_true h63, e78, e102]; rfl)) rfl
  · skip
    have e6 := b2i_t.mp h6
    refine X_aload_n (nx := 10) dX8_doClash_9 rfl rfl rfl ?_
    refine M_getP (nx := 13) dX8_doClash_10 rfl fl_RX8_19 rfl (by first | assumption | rfl | decide | omega) (by first | assumption | rfl | decide | omega) (by first | assumption | rfl | decide | omega) ?_
    refine X_iload_n (nx := 14) dX8_doClash_13 rfl rfl rfl ?_
    refine M_ld (a := 108) (L := 10) (nx := 15) dX8_doClash_14 rfl (by decide) (by decide) rfl (by decide) (by omega) ((hB3 b hb).1) ?_
    refine X_if_eq (tgt := 49) (nx := 18) dX8_doClash_15 rfl rfl (fun h15 => ?_) (fun h15 => ?_)
    · skip
      have e15 := b2i_f.mp h15
      refine X_iconst (v := 0) (nx := 50) dX8_doClash_49 rfl rfl ?_
      exact Y_reti dX8_doClash_50 (Or.inr ⟨rfl, by first | exact Or.inl rfl | exact Or.inr rfl | exact b2i_01 _ | assumption⟩) (by unfold clsB thN; rw [decide_eq_true ha, decide_eq_true hb]; first | (rw [e6]; rfl) | (rw [e6, e15]; rfl) | (rw [e6, e15, e23]; rfl) | (rw [e6, e15, e23, e31]; rfl) | (rw [e6, e15, e23, e31, decide_eq_false h46]; rfl) | (rw [e6, e15, e23, e31, decide_eq_true h46, hak, decide_eq_false h63]; rfl) | (rw [e6, e15, e23, e31, decide_eq_true h46, hak, decide_eq_true h63, e78]; rfl) | (rw [e6, e15, e23, e31, decide_eq_true h46, hak, decide_eq_true h63, e78, e102]; rfl)) rfl
    · skip
      have e15 := b2i_t.mp h15
      refine X_aload_n (nx := 19) dX8_doClash_18 rfl rfl rfl ?_
      refine X_iload_n (nx := 20) dX8_doClash_19 rfl rfl rfl ?_
      refine Y_Vi1 (nx := 23) dX8_doClash_20 rfl ml_RX8_127 kj_X8_isMount kv_X8_isMount (sp_X8_isMount h hV rfl ha) (by first | assumption | rfl | decide | omega) (by first | assumption | rfl | decide | omega) (by decide) rfl (by first | decide | omega) (by exact Nat.le_of_ble_eq_true rfl) ?_
      refine X_if_ne (tgt := 49) (nx := 26) dX8_doClash_23 rfl rfl (fun h23 => ?_) (fun h23 => ?_)
      · skip
        have e23 := b2i_t.mp h23
        refine X_iconst (v := 0) (nx := 50) dX8_doClash_49 rfl rfl ?_
        exact Y_reti dX8_doClash_50 (Or.inr ⟨rfl, by first | exact Or.inl rfl | exact Or.inr rfl | exact b2i_01 _ | assumption⟩) (by unfold clsB thN; rw [decide_eq_true ha, decide_eq_true hb]; first | (rw [e6]; rfl) | (rw [e6, e15]; rfl) | (rw [e6, e15, e23]; rfl) | (rw [e6, e15, e23, e31]; rfl) | (rw [e6, e15, e23, e31, decide_eq_false h46]; rfl) | (rw [e6, e15, e23, e31, decide_eq_true h46, hak, decide_eq_false h63]; rfl) | (rw [e6, e15, e23, e31, decide_eq_true h46, hak, decide_eq_true h63, e78]; rfl) | (rw [e6, e15, e23, e31, decide_eq_true h46, hak, decide_eq_true h63, e78, e102]; rfl)) rfl
      · skip
        have e23 := b2i_f.mp h23
        refine X_aload_n (nx := 27) dX8_doClash_26 rfl rfl rfl ?_
        refine X_iload_n (nx := 28) dX8_doClash_27 rfl rfl rfl ?_
        refine Y_Vi1 (nx := 31) dX8_doClash_28 rfl ml_RX8_127 kj_X8_isMount kv_X8_isMount (sp_X8_isMount h hV rfl hb) (by first | assumption | rfl | decide | omega) (by first | assumption | rfl | decide | omega) (by decide) rfl (by first | decide | omega) (by exact Nat.le_of_ble_eq_true rfl) ?_
        refine X_if_ne (tgt := 49) (nx := 34) dX8_doClash_31 rfl rfl (fun h31 => ?_) (fun h31 => ?_)
        · skip
          have e31 := b2i_t.mp h31
          refine X_iconst (v := 0) (nx := 50) dX8_doClash_49 rfl rfl ?_
          exact Y_reti dX8_doClash_50 (Or.inr ⟨rfl, by first | exact Or.inl rfl | exact Or.inr rfl | exact b2i_01 _ | assumption⟩) (by unfold clsB thN; rw [decide_eq_true ha, decide_eq_true hb]; first | (rw [e6]; rfl) | (rw [e6, e15]; rfl) | (rw [e6, e15, e23]; rfl) | (rw [e6, e15, e23, e31]; rfl) | (rw [e6, e15, e23, e31, decide_eq_false h46]; rfl) | (rw [e6, e15, e23, e31, decide_eq_true h46, hak, decide_eq_false h63]; rfl) | (rw [e6, e15, e23, e31, decide_eq_true h46, hak, decide_eq_true h63, e78]; rfl) | (rw [e6, e15, e23, e31, decide_eq_true h46, hak, decide_eq_true h63, e78, e102]; rfl)) rfl
        · skip
          have e31 := b2i_f.mp h31
          refine X_aload_n (nx := 35) dX8_doClash_34 rfl rfl rfl ?_
          refine M_getP (nx := 38) dX8_doClash_35 rfl fl_RX8_22 rfl (by first | assumption | rfl | decide | omega) (by first | assumption | rfl | decide | omega) (by first | assumption | rfl | decide | omega) ?_
          refine X_iload_n (nx := 39) dX8_doClash_38 rfl rfl rfl ?_
          refine M_ld (a := 109) (L := 10) (nx := 40) dX8_doClash_39 rfl (by decide) (by decide) rfl (by decide) (by omega) ((hB3 a ha).2.1) ?_
          refine X_aload_n (nx := 41) dX8_doClash_40 rfl rfl rfl ?_
          refine M_getP (nx := 44) dX8_doClash_41 rfl fl_RX8_22 rfl (by first | assumption | rfl | decide | omega) (by first | assumption | rfl | decide | omega) (by first | assumption | rfl | decide | omega) ?_
          refine X_iload_n (nx := 45) dX8_doClash_44 rfl rfl rfl ?_
          refine M_ld (a := 109) (L := 10) (nx := 46) dX8_doClash_45 rfl (by decide) (by decide) rfl (by decide) (by omega) ((hB3 b hb).2.1) ?_
          refine X_icmp_eq (tgt := 51) (nx := 49) dX8_doClash_46 rfl rfl (fun h46 => ?_) (fun h46 => ?_)
          · skip
            rw [nI_eq (by omega) (by omega)] at h46
            refine X_aload_n (nx := 52) dX8_doClash_51 rfl rfl rfl ?_
            refine M_getP (nx := 55) dX8_doClash_52 rfl fl_RX8_31 rfl (by first | assumption | rfl | decide | omega) (by first | assumption | rfl | decide | omega) (by first | assumption | rfl | decide | omega) ?_
            refine X_iload_n (nx := 56) dX8_doClash_55 rfl rfl rfl ?_
            refine M_ld (a := 112) (L := 10) (nx := 57) dX8_doClash_56 rfl (by decide) (by decide) rfl (by decide) (by omega) ((hB3 a ha).2.2.2.2.1) ?_
            refine X_aload_n (nx := 58) dX8_doClash_57 rfl rfl rfl ?_
            refine M_getP (nx := 61) dX8_doClash_58 rfl fl_RX8_31 rfl (by first | assumption | rfl | decide | omega) (by first | assumption | rfl | decide | omega) (by first | assumption | rfl | decide | omega) ?_
            refine X_iload_n (nx := 62) dX8_doClash_61 rfl rfl rfl ?_
            refine M_ld (a := 112) (L := 10) (nx := 63) dX8_doClash_62 rfl (by decide) (by decide) rfl (by decide) (by omega) ((hB3 b hb).2.2.2.2.1) ?_
            refine X_icmp_ne (tgt := 109) (nx := 66) dX8_doClash_63 rfl rfl (fun h63 => ?_) (fun h63 => ?_)
            · skip
              rw [nI_eq (by omega) (by omega)] at h63
              refine X_iconst (v := 0) (nx := 110) dX8_doClash_109 rfl rfl ?_
              exact Y_reti dX8_doClash_110 (Or.inr ⟨rfl, by first | exact Or.inl rfl | exact Or.inr rfl | exact b2i_01 _ | assumption⟩) (by unfold clsB thN; rw [decide_eq_true ha, decide_eq_true hb]; first | (rw [e6]; rfl) | (rw [e6, e15]; rfl) | (rw [e6, e15, e23]; rfl) | (rw [e6, e15, e23, e31]; rfl) | (rw [e6, e15, e23, e31, decide_eq_false h46]; rfl) | (rw [e6, e15, e23, e31, decide_eq_true h46, hak, decide_eq_false h63]; rfl) | (rw [e6, e15, e23, e31, decide_eq_true h46, hak, decide_eq_true h63, e78]; rfl) | (rw [e6, e15, e23, e31, decide_eq_true h46, hak, decide_eq_true h63, e78, e102]; rfl)) rfl
            · skip
              rw [nI_eq (by omega) (by omega)] at h63
              refine X_aload_n (nx := 67) dX8_doClash_66 rfl rfl rfl ?_
              refine X_iload_n (nx := 68) dX8_doClash_67 rfl rfl rfl ?_
              refine X_iload_n (nx := 69) dX8_doClash_68 rfl rfl rfl ?_
              refine X_aload_n (nx := 70) dX8_doClash_69 rfl rfl rfl ?_
              refine M_getP (nx := 73) dX8_doClash_70 rfl fl_RX8_31 rfl (by first | assumption | rfl | decide | omega) (by first | assumption | rfl | decide | omega) (by first | assumption | rfl | decide | omega) ?_
              refine X_iload_n (nx := 74) dX8_doClash_73 rfl rfl rfl ?_
              refine M_ld (a := 112) (L := 10) (nx := 75) dX8_doClash_74 rfl (by decide) (by decide) rfl (by decide) (by omega) ((hB3 a ha).2.2.2.2.1) ?_
              refine Y_Vi3 (nx := 78) dX8_doClash_75 rfl ml_RX8_299 kj_X8_beginAlike kv_X8_beginAlike (sp_X8_beginAlike h hV rfl ha rfl hb rfl (by omega)) (by first | assumption | rfl | decide | omega) (by first | assumption | rfl | decide | omega) (by decide) rfl (by first | decide | omega) (by exact Nat.le_of_ble_eq_true rfl) ?_
              refine X_if_eq (tgt := 109) (nx := 81) dX8_doClash_78 rfl rfl (fun h78 => ?_) (fun h78 => ?_)
              · skip
                have e78 := b2i_f.mp h78
                refine X_iconst (v := 0) (nx := 110) dX8_doClash_109 rfl rfl ?_
                exact Y_reti dX8_doClash_110 (Or.inr ⟨rfl, by first | exact Or.inl rfl | exact Or.inr rfl | exact b2i_01 _ | assumption⟩) (by unfold clsB thN; rw [decide_eq_true ha, decide_eq_true hb]; first | (rw [e6]; rfl) | (rw [e6, e15]; rfl) | (rw [e6, e15, e23]; rfl) | (rw [e6, e15, e23, e31]; rfl) | (rw [e6, e15, e23, e31, decide_eq_false h46]; rfl) | (rw [e6, e15, e23, e31, decide_eq_true h46, hak, decide_eq_false h63]; rfl) | (rw [e6, e15, e23, e31, decide_eq_true h46, hak, decide_eq_true h63, e78]; rfl) | (rw [e6, e15, e23, e31, decide_eq_true h46, hak, decide_eq_true h63, e78, e102]; rfl)) rfl
              · skip
                have e78 := b2i_t.mp h78
                obtain ⟨_, va, hva, hva2⟩ := (hV.2.2 a ha).endv e23
                obtain ⟨_, vb, hvb, hvb2⟩ := (hV.2.2 b hb).endv e31
                have sva : srv (vb_ B a) = srvm va := by rw [hva2]; exact srv_n va hva
                have svb : srv (vb_ B b) = srvm vb := by rw [hvb2]; exact srv_n vb hvb
                refine X_gs_srv (nx := 84) dX8_doClash_81 rfl gs_RX8_131 ?_
                refine X_aload_n (nx := 85) dX8_doClash_84 rfl rfl rfl ?_
                refine M_getP (nx := 88) dX8_doClash_85 rfl fl_RX8_25 rfl (by first | assumption | rfl | decide | omega) (by first | assumption | rfl | decide | omega) (by first | assumption | rfl | decide | omega) ?_
                refine X_iload_n (nx := 89) dX8_doClash_88 rfl rfl rfl ?_
                refine M_ld (a := 110) (L := 10) (nx := 90) dX8_doClash_89 rfl (by decide) (by decide) rfl (by decide) (by omega) ((hB3 a ha).2.2.1.trans hva2) ?_
                refine M_sld (a := 2002) (n := 4) (nx := 91) dX8_doClash_90 rfl (fun _ _ => rfl) (by omega) (srvI va hva) ?_
                refine X_gs_srv (nx := 94) dX8_doClash_91 rfl gs_RX8_131 ?_
                refine X_aload_n (nx := 95) dX8_doClash_94 rfl rfl rfl ?_
                refine M_getP (nx := 98) dX8_doClash_95 rfl fl_RX8_25 rfl (by first | assumption | rfl | decide | omega) (by first | assumption | rfl | decide | omega) (by first | assumption | rfl | decide | omega) ?_
                refine X_iload_n (nx := 99) dX8_doClash_98 rfl rfl rfl ?_
                refine M_ld (a := 110) (L := 10) (nx := 100) dX8_doClash_99 rfl (by decide) (by decide) rfl (by decide) (by omega) ((hB3 b hb).2.2.1.trans hvb2) ?_
                refine M_sld (a := 2002) (n := 4) (nx := 101) dX8_doClash_100 rfl (fun _ _ => rfl) (by omega) (srvI vb hvb) ?_
                refine X_iand (nx := 102) dX8_doClash_101 rfl ?_
                refine X_top (nI_and _ _) ?_
                refine X_if_eq (tgt := 109) (nx := 105) dX8_doClash_102 rfl rfl (fun h102 => ?_) (fun h102 => ?_)
                · skip
                  rw [nI_0' (Nat.lt_of_le_of_lt Nat.and_le_left (Nat.lt_trans (srvm_16 va hva) (by decide)))] at h102
                  have e102 : decide (srv (vb_ B a) &&& srv (vb_ B b) ≠ 0) = false := decide_eq_false (fun q => q (by rw [sva, svb]; exact h102))
                  refine X_iconst (v := 0) (nx := 110) dX8_doClash_109 rfl rfl ?_
                  exact Y_reti dX8_doClash_110 (Or.inr ⟨rfl, by first | exact Or.inl rfl | exact Or.inr rfl | exact b2i_01 _ | assumption⟩) (by unfold clsB thN; rw [decide_eq_true ha, decide_eq_true hb]; first | (rw [e6]; rfl) | (rw [e6, e15]; rfl) | (rw [e6, e15, e23]; rfl) | (rw [e6, e15, e23, e31]; rfl) | (rw [e6, e15, e23, e31, decide_eq_false h46]; rfl) | (rw [e6, e15, e23, e31, decide_eq_true h46, hak, decide_eq_false h63]; rfl) | (rw [e6, e15, e23, e31, decide_eq_true h46, hak, decide_eq_true h63, e78]; rfl) | (rw [e6, e15, e23, e31, decide_eq_true h46, hak, decide_eq_true h63, e78, e102]; rfl)) rfl
                · skip
                  rw [nI_0' (Nat.lt_of_le_of_lt Nat.and_le_left (Nat.lt_trans (srvm_16 va hva) (by decide)))] at h102
                  have e102 : decide (srv (vb_ B a) &&& srv (vb_ B b) ≠ 0) = true := decide_eq_true (fun q => h102 (by rw [← sva, ← svb]; exact q))
                  refine X_iconst (v := 1) (nx := 106) dX8_doClash_105 rfl rfl ?_
                  refine X_goto (tgt := 110) dX8_doClash_106 rfl ?_
                  exact Y_reti dX8_doClash_110 (Or.inr ⟨rfl, by first | exact Or.inl rfl | exact Or.inr rfl | exact b2i_01 _ | assumption⟩) (by unfold clsB thN; rw [decide_eq_true ha, decide_eq_true hb]; first | (rw [e6]; rfl) | (rw [e6, e15]; rfl) | (rw [e6, e15, e23]; rfl) | (rw [e6, e15, e23, e31]; rfl) | (rw [e6, e15, e23, e31, decide_eq_false h46]; rfl) | (rw [e6, e15, e23, e31, decide_eq_true h46, hak, decide_eq_false h63]; rfl) | (rw [e6, e15, e23, e31, decide_eq_true h46, hak, decide_eq_true h63, e78]; rfl) | (rw [e6, e15, e23, e31, decide_eq_true h46, hak, decide_eq_true h63, e78, e102]; rfl)) rfl
          · skip
            rw [nI_eq (by omega) (by omega)] at h46
            refine X_iconst (v := 0) (nx := 50) dX8_doClash_49 rfl rfl ?_
            exact Y_reti dX8_doClash_50 (Or.inr ⟨rfl, by first | exact Or.inl rfl | exact Or.inr rfl | exact b2i_01 _ | assumption⟩) (by unfold clsB thN; rw [decide_eq_true ha, decide_eq_true hb]; first | (rw [e6]; rfl) | (rw [e6, e15]; rfl) | (rw [e6, e15, e23]; rfl) | (rw [e6, e15, e23, e31]; rfl) | (rw [e6, e15, e23, e31, decide_eq_false h46]; rfl) | (rw [e6, e15, e23, e31, decide_eq_true h46, hak, decide_eq_false h63]; rfl) | (rw [e6, e15, e23, e31, decide_eq_true h46, hak, decide_eq_true h63, e78]; rfl) | (rw [e6, e15, e23, e31, decide_eq_true h46, hak, decide_eq_true h63, e78, e102]; rfl)) rfl
theorem dX8_clash_0 : decode cX8_clash 0 = .ok (.iload_n 1, 1) := by decide +kernel
theorem dX8_clash_1 : decode cX8_clash 1 = .ok (.iconst 0, 1) := by decide +kernel
theorem dX8_clash_2 : decode cX8_clash 2 = .ok (.iconst 1, 1) := by decide +kernel
theorem dX8_clash_3 : decode cX8_clash 3 = .ok (.invokestatic 115, 3) := by decide +kernel
theorem dX8_clash_6 : decode cX8_clash 6 = .ok (.ifCond .ne 10, 3) := by decide +kernel
theorem dX8_clash_9 : decode cX8_clash 9 = .ok (.aload_n 0, 1) := by decide +kernel
theorem dX8_clash_10 : decode cX8_clash 10 = .ok (.bipush (-2), 2) := by decide +kernel
theorem dX8_clash_12 : decode cX8_clash 12 = .ok (.invokevirtual 211, 3) := by decide +kernel
theorem dX8_clash_15 : decode cX8_clash 15 = .ok (.ireturn, 1) := by decide +kernel
theorem dX8_clash_16 : decode cX8_clash 16 = .ok (.iconst 0, 1) := by decide +kernel
theorem dX8_clash_17 : decode cX8_clash 17 = .ok (.istore_n 2, 1) := by decide +kernel
theorem dX8_clash_18 : decode cX8_clash 18 = .ok (.bipush (-9), 2) := by decide +kernel
theorem dX8_clash_20 : decode cX8_clash 20 = .ok (.istore_n 3, 1) := by decide +kernel
theorem dX8_clash_21 : decode cX8_clash 21 = .ok (.iconst 0, 1) := by decide +kernel
theorem dX8_clash_22 : decode cX8_clash 22 = .ok (.istore 4, 2) := by decide +kernel
theorem dX8_clash_24 : decode cX8_clash 24 = .ok (.iload 4, 2) := by decide +kernel
theorem dX8_clash_26 : decode cX8_clash 26 = .ok (.aload_n 0, 1) := by decide +kernel
theorem dX8_clash_27 : decode cX8_clash 27 = .ok (.getfield 109, 3) := by decide +kernel
theorem dX8_clash_30 : decode cX8_clash 30 = .ok (.if_icmp .ge 58, 3) := by decide +kernel
theorem dX8_clash_33 : decode cX8_clash 33 = .ok (.iload 4, 2) := by decide +kernel
theorem dX8_clash_35 : decode cX8_clash 35 = .ok (.iconst 1, 1) := by decide +kernel
theorem dX8_clash_36 : decode cX8_clash 36 = .ok (.iadd, 1) := by decide +kernel
theorem dX8_clash_37 : decode cX8_clash 37 = .ok (.istore 5, 2) := by decide +kernel
theorem dX8_clash_39 : decode cX8_clash 39 = .ok (.iload 5, 2) := by decide +kernel
theorem dX8_clash_41 : decode cX8_clash 41 = .ok (.aload_n 0, 1) := by decide +kernel
theorem dX8_clash_42 : decode cX8_clash 42 = .ok (.getfield 109, 3) := by decide +kernel
theorem dX8_clash_45 : decode cX8_clash 45 = .ok (.if_icmp .ge 37, 3) := by decide +kernel
theorem dX8_clash_48 : decode cX8_clash 48 = .ok (.aload_n 0, 1) := by decide +kernel
theorem dX8_clash_49 : decode cX8_clash 49 = .ok (.iload 4, 2) := by decide +kernel
theorem dX8_clash_51 : decode cX8_clash 51 = .ok (.iload 5, 2) := by decide +kernel
theorem dX8_clash_53 : decode cX8_clash 53 = .ok (.invokevirtual 338, 3) := by decide +kernel
theorem dX8_clash_56 : decode cX8_clash 56 = .ok (.ifCond .ne 6, 3) := by decide +kernel
theorem dX8_clash_59 : decode cX8_clash 59 = .ok (.goto 17, 3) := by decide +kernel
theorem dX8_clash_62 : decode cX8_clash 62 = .ok (.iinc 2 1, 3) := by decide +kernel
theorem dX8_clash_65 : decode cX8_clash 65 = .ok (.iload_n 3, 1) := by decide +kernel
theorem dX8_clash_66 : decode cX8_clash 66 = .ok (.ifCond .ge 8, 3) := by decide +kernel
theorem dX8_clash_69 : decode cX8_clash 69 = .ok (.iload 4, 2) := by decide +kernel
theorem dX8_clash_71 : decode cX8_clash 71 = .ok (.goto 4, 3) := by decide +kernel
theorem dX8_clash_74 : decode cX8_clash 74 = .ok (.iload_n 3, 1) := by decide +kernel
theorem dX8_clash_75 : decode cX8_clash 75 = .ok (.istore_n 3, 1) := by decide +kernel
theorem dX8_clash_76 : decode cX8_clash 76 = .ok (.iinc 5 1, 3) := by decide +kernel
theorem dX8_clash_79 : decode cX8_clash 79 = .ok (.goto (-40), 3) := by decide +kernel
theorem dX8_clash_82 : decode cX8_clash 82 = .ok (.iinc 4 1, 3) := by decide +kernel
theorem dX8_clash_85 : decode cX8_clash 85 = .ok (.goto (-61), 3) := by decide +kernel
theorem dX8_clash_88 : decode cX8_clash 88 = .ok (.iload_n 1, 1) := by decide +kernel
theorem dX8_clash_89 : decode cX8_clash 89 = .ok (.ifCond .ne 7, 3) := by decide +kernel
theorem dX8_clash_92 : decode cX8_clash 92 = .ok (.iload_n 2, 1) := by decide +kernel
theorem dX8_clash_93 : decode cX8_clash 93 = .ok (.goto 4, 3) := by decide +kernel
theorem dX8_clash_96 : decode cX8_clash 96 = .ok (.iload_n 3, 1) := by decide +kernel
theorem dX8_clash_97 : decode cX8_clash 97 = .ok (.ireturn, 1) := by decide +kernel
theorem lp_X8_clash_in {S : St} {D : Mem} {i : Nat} {y : Int32} (hw : WF S) (hi : i < cm_ (bk S)) (h : INV2 D S) {Q : List Value → Wd → Prop} (hQ : X 4 138 j_X8_clash 82 [some (.ref 104), some (.int y), some (.int (nI (cMany (bk S) i + inn (bk S) i (9 - i)))), some (.int (lsI (bk S) i (9 - i))), some (.int (nI i)), some (.int (nI (cm_ (bk S))))] [] (138, P0, D) Q) : ∀ (m : Nat) (k : Nat), i + 1 + k + m = cm_ (bk S) → X 4 138 j_X8_clash 39 [some (.ref 104), some (.int y), some (.int (nI (cMany (bk S) i + inn (bk S) i k))), some (.int (lsI (bk S) i k)), some (.int (nI i)), some (.int (nI (i + 1 + k)))] [] (138, P0, D) (Q) := by
  intro m
  induction m with
  | zero =>
    intro k hk
    have hcm := hw.1.2.1
    refine X_iload (nx := 41) dX8_clash_39 rfl rfl ?_
    refine X_aload_n (nx := 42) dX8_clash_41 rfl rfl rfl ?_
    refine M_getI (nx := 45) dX8_clash_42 rfl fl_RX8_109 rfl (by first | assumption | rfl | decide | omega) (by first | assumption | rfl | decide | omega) ?_
    refine X_top (h.1.2.1) ?_
    refine X_icmp_ge (tgt := 82) (nx := 48) dX8_clash_45 rfl rfl (fun h45 => ?_) (fun h45 => ?_)
    · skip
      obtain rfl : k = cm_ (bk S) - (i + 1) := (by omega)
      rw [inn_cut hw.1 hi, ls_cut hw.1 hi, show i + 1 + (cm_ (bk S) - (i + 1)) = cm_ (bk S) by omega]
      exact hQ
    · exact absurd h45 (fun q => q (nI_le (by omega) (by omega)))
  | succ m ih =>
    intro k hk
    have hcm := hw.1.2.1
    refine X_iload (nx := 41) dX8_clash_39 rfl rfl ?_
    refine X_aload_n (nx := 42) dX8_clash_41 rfl rfl rfl ?_
    refine M_getI (nx := 45) dX8_clash_42 rfl fl_RX8_109 rfl (by first | assumption | rfl | decide | omega) (by first | assumption | rfl | decide | omega) ?_
    refine X_top (h.1.2.1) ?_
    refine X_icmp_ge (tgt := 82) (nx := 48) dX8_clash_45 rfl rfl (fun h45 => ?_) (fun h45 => ?_)
    · exact absurd h45 (nI_ge (by omega) (by omega))
    · skip
      refine X_aload_n (nx := 49) dX8_clash_48 rfl rfl rfl ?_
      refine X_iload (nx := 51) dX8_clash_49 rfl rfl ?_
      refine X_iload (nx := 53) dX8_clash_51 rfl rfl ?_
      refine Y_Vi2 (nx := 56) dX8_clash_53 rfl ml_RX8_338 kj_X8_doClash kv_X8_doClash (sp_X8_doClash h.1 hw.1 rfl hi rfl (by omega)) (by first | assumption | rfl | decide | omega) (by first | assumption | rfl | decide | omega) (by decide) rfl (by first | decide | omega) (by exact Nat.le_of_ble_eq_true rfl) ?_
      refine X_if_ne (tgt := 62) (nx := 59) dX8_clash_56 rfl rfl (fun h56 => ?_) (fun h56 => ?_)
      · skip
        have hz := ls_1 (k := k) (b2i_t.mp h56) (by omega) (by omega)
        refine X_iinc (nx := 65) dX8_clash_62 rfl (by decide) rfl hz.1 rfl (st_s (st_s (st_0))) ?_
        refine X_iload_n (nx := 66) dX8_clash_65 rfl rfl rfl ?_
        refine X_if_ge (tgt := 74) (nx := 69) dX8_clash_66 rfl rfl (fun h66 => ?_) (fun h66 => ?_)
        · skip
          have hz2 := (ls_sgn (B := bk S) (i := i) (k := k) (by omega) (by omega)).1 h66
          rw [hz.2.2 hz2]
          refine X_iload_n (nx := 75) dX8_clash_74 rfl rfl rfl ?_
          refine X_istore_n (i := 3) (nx := 76) dX8_clash_75 rfl rfl (by decide) rfl (st_s (st_s (st_s (st_0)))) ?_
          refine X_iinc (nx := 79) dX8_clash_76 rfl (by decide) rfl (by first | exact ii1 _ | rfl) rfl (st_s (st_s (st_s (st_s (st_s (st_0)))))) ?_
          refine X_goto (tgt := 39) dX8_clash_79 rfl ?_
          exact ih (k + 1) (by omega)
        · skip
          have hz2 := (ls_sgn (B := bk S) (i := i) (k := k) (by omega) (by omega)).2 h66
          refine X_iload (nx := 71) dX8_clash_69 rfl rfl ?_
          refine X_top (hz.2.1 hz2) ?_
          refine X_goto (tgt := 75) dX8_clash_71 rfl ?_
          refine X_istore_n (i := 3) (nx := 76) dX8_clash_75 rfl rfl (by decide) rfl (st_s (st_s (st_s (st_0)))) ?_
          refine X_iinc (nx := 79) dX8_clash_76 rfl (by decide) rfl (by first | exact ii1 _ | rfl) rfl (st_s (st_s (st_s (st_s (st_s (st_0)))))) ?_
          refine X_goto (tgt := 39) dX8_clash_79 rfl ?_
          exact ih (k + 1) (by omega)
      · skip
        have hz := ls_0 (k := k) (b2i_f.mp h56)
        rw [hz.1, hz.2]
        refine X_goto (tgt := 76) dX8_clash_59 rfl ?_
        refine X_iinc (nx := 79) dX8_clash_76 rfl (by decide) rfl (by first | exact ii1 _ | rfl) rfl (st_s (st_s (st_s (st_s (st_s (st_0)))))) ?_
        refine X_goto (tgt := 39) dX8_clash_79 rfl ?_
        exact ih (k + 1) (by omega)
theorem lp_X8_clash {S : St} {D : Mem} {y : Int32} (hw : WF S) (h : INV2 D S) : ∀ (m : Nat) (i : Nat), i + m = cm_ (bk S) → X 4 138 j_X8_clash 24 [some (.ref 104), some (.int y), some (.int (nI (cMany (bk S) i))), some (.int (lsI (bk S) i 0)), some (.int (nI i)), none] [] (138, P0, D) (fun x σ => ∃ (u : Int32) (D' : Mem), x = [.int u] ∧ σ = wd D' ∧ CK2 D (if y = 0 then nI (cMany (bk S) 10) else opI (fst_ (cfP (bk S)) 0 10), S) u D') := by
  intro m
  induction m with
  | zero =>
    intro i hi
    have hcm := hw.1.2.1
    refine X_iload (nx := 26) dX8_clash_24 rfl rfl ?_
    refine X_aload_n (nx := 27) dX8_clash_26 rfl rfl rfl ?_
    refine M_getI (nx := 30) dX8_clash_27 rfl fl_RX8_109 rfl (by first | assumption | rfl | decide | omega) (by first | assumption | rfl | decide | omega) ?_
    refine X_top (h.1.2.1) ?_
    refine X_icmp_ge (tgt := 88) (nx := 33) dX8_clash_30 rfl rfl (fun h30 => ?_) (fun h30 => ?_)
    · skip
      refine X_iload_n (nx := 89) dX8_clash_88 rfl rfl rfl ?_
      refine X_if_ne (tgt := 96) (nx := 92) dX8_clash_89 rfl rfl (fun h89 => ?_) (fun h89 => ?_)
      · skip
        refine X_iload_n (nx := 97) dX8_clash_96 rfl rfl rfl ?_
        exact Z_reti dX8_clash_97 (Or.inl rfl) (by obtain rfl : i = cm_ (bk S) := (by omega); rw [← cm_cut hw.1, ← ls_cut2 hw.1]; first | (rw [if_pos h89]; exact ck2_s rfl h Fr.rf) | (rw [if_neg h89]; exact ck2_s rfl h Fr.rf))
      · skip
        refine X_iload_n (nx := 93) dX8_clash_92 rfl rfl rfl ?_
        refine X_goto (tgt := 97) dX8_clash_93 rfl ?_
        exact Z_reti dX8_clash_97 (Or.inl rfl) (by obtain rfl : i = cm_ (bk S) := (by omega); rw [← cm_cut hw.1, ← ls_cut2 hw.1]; first | (rw [if_pos h89]; exact ck2_s rfl h Fr.rf) | (rw [if_neg h89]; exact ck2_s rfl h Fr.rf))
    · exact absurd h30 (fun q => q (nI_le (by omega) (by omega)))
  | succ m ih =>
    intro i hi
    have hcm := hw.1.2.1
    refine X_iload (nx := 26) dX8_clash_24 rfl rfl ?_
    refine X_aload_n (nx := 27) dX8_clash_26 rfl rfl rfl ?_
    refine M_getI (nx := 30) dX8_clash_27 rfl fl_RX8_109 rfl (by first | assumption | rfl | decide | omega) (by first | assumption | rfl | decide | omega) ?_
    refine X_top (h.1.2.1) ?_
    refine X_icmp_ge (tgt := 88) (nx := 33) dX8_clash_30 rfl rfl (fun h30 => ?_) (fun h30 => ?_)
    · exact absurd h30 (nI_ge (by omega) (by omega))
    · skip
      refine X_iload (nx := 35) dX8_clash_33 rfl rfl ?_
      refine X_iconst (v := nI 1) (nx := 36) dX8_clash_35 rfl rfl ?_
      refine X_iadd (nx := 37) dX8_clash_36 rfl ?_
      refine X_top (nI_add _ _) ?_
      refine X_istore (i := 5) (nx := 39) dX8_clash_37 rfl (by decide) rfl (st_s (st_s (st_s (st_s (st_s (st_0)))))) ?_
      refine lp_X8_clash_in hw (by omega) h ?_ (cm_ (bk S) - (i + 1)) 0 (by omega)
      refine X_iinc (nx := 85) dX8_clash_82 rfl (by decide) rfl (by first | exact ii1 _ | rfl) rfl (st_s (st_s (st_s (st_s (st_0))))) ?_
      refine X_goto (tgt := 24) dX8_clash_85 rfl ?_
      rw [ls_next]
      refine X_fg6 ?_
      exact ih (i + 1) (by omega)
theorem sp_X8_clash {y : Int32} {S : St} {D : Mem} (h : INV2 D S) (hw : WF S) : Rix 4 j_X8_clash [.ref 104, .int y] D (fun u D' => CK2 D (m_clash S y) u D') := by
  refine E.start 4 (ls := [some (.ref 104), some (.int y), none, none, none, none]) (by decide +kernel) (Nat.le_of_ble_eq_true rfl) rfl (Nat.le_refl _) (Nat.le_refl _) ?_
  have hcm := hw.1.2.1
  have hB2 := h.1.2.1
  refine X_iload_n (nx := 1) dX8_clash_0 rfl rfl rfl ?_
  refine X_iconst (v := 0) (nx := 2) dX8_clash_1 rfl rfl ?_
  refine X_iconst (v := 1) (nx := 3) dX8_clash_2 rfl rfl ?_
  refine Y_Si3 (nx := 6) dX8_clash_3 rfl ml_RX8_115 kj_X8_isIn ks_X8_isIn (sp_X8_isIn) (by first | decide | omega) (by exact Nat.le_of_ble_eq_true rfl) ?_
  refine X_top (congrArg b2i d01) ?_
  refine X_if_ne (tgt := 16) (nx := 9) dX8_clash_6 rfl rfl (fun h6 => ?_) (fun h6 => ?_)
  · skip
    have c6 := b2i_t.mp h6
    refine X_iconst (v := nI 0) (nx := 17) dX8_clash_16 rfl rfl ?_
    refine X_istore_n (i := 2) (nx := 18) dX8_clash_17 rfl rfl (by decide) rfl (st_s (st_s (st_0))) ?_
    refine X_bipush (v := -9) (nx := 20) dX8_clash_18 rfl rfl ?_
    refine X_istore_n (i := 3) (nx := 21) dX8_clash_20 rfl rfl (by decide) rfl (st_s (st_s (st_s (st_0)))) ?_
    refine X_iconst (v := nI 0) (nx := 22) dX8_clash_21 rfl rfl ?_
    refine X_istore (i := 4) (nx := 24) dX8_clash_22 rfl (by decide) rfl (st_s (st_s (st_s (st_s (st_0))))) ?_
    (unfold m_clash; rw [if_pos c6]; exact lp_X8_clash hw h (cm_ (bk S)) 0 (Nat.zero_add _))
  · skip
    have n6 := nb h6
    refine X_aload_n (nx := 10) dX8_clash_9 rfl rfl rfl ?_
    refine X_bipush (v := -2) (nx := 12) dX8_clash_10 rfl rfl ?_
    refine Y_Vi1 (nx := 15) dX8_clash_12 rfl ml_RX8_211 kj_X8_no kv_X8_no (sp_X8_no (k := 2) rfl (by omega) (by omega)) (by first | assumption | rfl | decide | omega) (by first | assumption | rfl | decide | omega) (by decide) rfl (by first | decide | omega) (by exact Nat.le_of_ble_eq_true rfl) ?_
    exact Z_reti dX8_clash_15 (Or.inl rfl) (by unfold m_clash; rw [if_neg n6]; exact ck2_no (k := 2) h Fr.rf (by omega) (by omega))
