/-! THE REFERENCE: who is there, changes -/
theorem shl_b2i {p : Bool} {i : Nat} (hi : i < 31) : b2i p <<< (nI i &&& 31) = nI (if p = true then 2 ^ i else 0) := by
  cases p with
  | true => rw [if_pos rfl]; exact one_shl i hi
  | false =>
    rw [if_neg (by decide)]
    have : ∀ k, k < 31 → (0 : Int32) <<< (nI k &&& 31) = nI 0 := by decide +kernel
    exact this i hi
theorem or_bit {T : Nat → Bool} {i : Nat} : nI (mkn T i) ||| nI (if T i = true then 2 ^ i else 0) = nI (mkn T (i + 1)) := by
  rw [nI_or]
  congr 1
  apply Nat.eq_of_testBit_eq
  intro k
  rw [Nat.testBit_or, mkn_tb, mkn_tb]
  cases hT : T i with
  | true =>
    rw [if_pos rfl, Nat.testBit_two_pow]
    by_cases hk : i = k
    · subst hk; simp [hT]
    · rw [decide_eq_false hk, Bool.or_false]
      congr 1
      exact decide_eq_decide.mpr (by omega)
  | false =>
    rw [if_neg (by decide), Nat.zero_testBit, Bool.or_false]
    by_cases hk : k = i
    · subst hk; simp [hT]
    · congr 1
      exact decide_eq_decide.mpr (by omega)
def bsN (w : Nat) : Nat → Nat := sumN (fun k => w / 2 ^ k % 2)
theorem bsN_pop : ∀ w, w < 1024 → bsN w 16 = pop w := by decide +kernel
theorem dX8_setThere_0 : decode cX8_setThere 0 = .ok (.iconst 0, 1) := by decide +kernel
theorem dX8_setThere_1 : decode cX8_setThere 1 = .ok (.istore_n 1, 1) := by decide +kernel
theorem dX8_setThere_2 : decode cX8_setThere 2 = .ok (.iconst 0, 1) := by decide +kernel
theorem dX8_setThere_3 : decode cX8_setThere 3 = .ok (.istore_n 2, 1) := by decide +kernel
theorem dX8_setThere_4 : decode cX8_setThere 4 = .ok (.iload_n 2, 1) := by decide +kernel
theorem dX8_setThere_5 : decode cX8_setThere 5 = .ok (.aload_n 0, 1) := by decide +kernel
theorem dX8_setThere_6 : decode cX8_setThere 6 = .ok (.getfield 109, 3) := by decide +kernel
theorem dX8_setThere_9 : decode cX8_setThere 9 = .ok (.if_icmp .ge 20, 3) := by decide +kernel
theorem dX8_setThere_12 : decode cX8_setThere 12 = .ok (.iload_n 1, 1) := by decide +kernel
theorem dX8_setThere_13 : decode cX8_setThere 13 = .ok (.aload_n 0, 1) := by decide +kernel
theorem dX8_setThere_14 : decode cX8_setThere 14 = .ok (.getfield 19, 3) := by decide +kernel
theorem dX8_setThere_17 : decode cX8_setThere 17 = .ok (.iload_n 2, 1) := by decide +kernel
theorem dX8_setThere_18 : decode cX8_setThere 18 = .ok (.iaload, 1) := by decide +kernel
theorem dX8_setThere_19 : decode cX8_setThere 19 = .ok (.iload_n 2, 1) := by decide +kernel
theorem dX8_setThere_20 : decode cX8_setThere 20 = .ok (.ishl, 1) := by decide +kernel
theorem dX8_setThere_21 : decode cX8_setThere 21 = .ok (.ior, 1) := by decide +kernel
theorem dX8_setThere_22 : decode cX8_setThere 22 = .ok (.istore_n 1, 1) := by decide +kernel
theorem dX8_setThere_23 : decode cX8_setThere 23 = .ok (.iinc 2 1, 3) := by decide +kernel
theorem dX8_setThere_26 : decode cX8_setThere 26 = .ok (.goto (-22), 3) := by decide +kernel
theorem dX8_setThere_29 : decode cX8_setThere 29 = .ok (.iload_n 1, 1) := by decide +kernel
theorem dX8_setThere_30 : decode cX8_setThere 30 = .ok (.ireturn, 1) := by decide +kernel
theorem lp_X8_setThere {B : Bk} {T : Nat → Bool} {K F : Nat → Nat} {D : Mem} (h : RB D B T K F) (hV : VB B) : ∀ (m : Nat) (i : Nat), i + m = cm_ B → X 1 138 j_X8_setThere 4 [some (.ref 104), some (.int (nI (mkn T i))), some (.int (nI i))] [] (138, P0, D) (fun x σ => x = [.int (nI (mkn T (cm_ B)))] ∧ σ = wd D) := by
  intro m
  induction m with
  | zero =>
    intro i hi
    obtain ⟨hB1, hB2, hB3⟩ := id h
    have hcm := hV.2.1
    refine X_iload_n (nx := 5) dX8_setThere_4 rfl rfl rfl ?_
    refine X_aload_n (nx := 6) dX8_setThere_5 rfl rfl rfl ?_
    refine M_getI (nx := 9) dX8_setThere_6 rfl fl_RX8_109 rfl (by first | assumption | rfl | decide | omega) (by first | assumption | rfl | decide | omega) ?_
    refine X_top (hB2) ?_
    refine X_icmp_ge (tgt := 29) (nx := 12) dX8_setThere_9 rfl rfl (fun h9 => ?_) (fun h9 => ?_)
    · skip
      refine X_iload_n (nx := 30) dX8_setThere_29 rfl rfl rfl ?_
      exact Y_reti dX8_setThere_30 (Or.inl rfl) (by rw [show i = cm_ B by omega]) rfl
    · exact absurd h9 (fun q => q (nI_le (by omega) (by omega)))
  | succ m ih =>
    intro i hi
    obtain ⟨hB1, hB2, hB3⟩ := id h
    have hcm := hV.2.1
    refine X_iload_n (nx := 5) dX8_setThere_4 rfl rfl rfl ?_
    refine X_aload_n (nx := 6) dX8_setThere_5 rfl rfl rfl ?_
    refine M_getI (nx := 9) dX8_setThere_6 rfl fl_RX8_109 rfl (by first | assumption | rfl | decide | omega) (by first | assumption | rfl | decide | omega) ?_
    refine X_top (hB2) ?_
    refine X_icmp_ge (tgt := 29) (nx := 12) dX8_setThere_9 rfl rfl (fun h9 => ?_) (fun h9 => ?_)
    · exact absurd h9 (nI_ge (by omega) (by omega))
    · skip
      refine X_iload_n (nx := 13) dX8_setThere_12 rfl rfl rfl ?_
      refine X_aload_n (nx := 14) dX8_setThere_13 rfl rfl rfl ?_
      refine M_getP (nx := 17) dX8_setThere_14 rfl fl_RX8_19 rfl (by first | assumption | rfl | decide | omega) (by first | assumption | rfl | decide | omega) (by first | assumption | rfl | decide | omega) ?_
      refine X_iload_n (nx := 18) dX8_setThere_17 rfl rfl rfl ?_
      refine M_ld (a := 108) (L := 10) (nx := 19) dX8_setThere_18 rfl (by decide) (by decide) rfl (by decide) (by omega) ((hB3 i (by omega)).1) ?_
      refine X_iload_n (nx := 20) dX8_setThere_19 rfl rfl rfl ?_
      refine X_ishl (nx := 21) dX8_setThere_20 rfl ?_
      refine X_top (shl_b2i (by omega)) ?_
      refine X_ior (nx := 22) dX8_setThere_21 rfl ?_
      refine X_top (or_bit) ?_
      refine X_istore_n (i := 1) (nx := 23) dX8_setThere_22 rfl rfl (by decide) rfl (st_s (st_0)) ?_
      refine X_iinc (nx := 26) dX8_setThere_23 rfl (by decide) rfl (by first | exact ii1 _ | rfl) rfl (st_s (st_s (st_0))) ?_
      refine X_goto (tgt := 4) dX8_setThere_26 rfl ?_
      exact ih (i + 1) (by omega)
theorem sp_X8_setThere {B : Bk} {T : Nat → Bool} {K F : Nat → Nat} {D : Mem} (h : RB D B T K F) (hV : VB B) : Ei 1 j_X8_setThere [.ref 104] D (nI (mkn (fun r => decide (r < cm_ B) && T r) 10)) (D) := by
  refine E.start 2 (ls := [some (.ref 104), none, none]) (by decide +kernel) (Nat.le_of_ble_eq_true rfl) rfl (Nat.le_refl _) (Nat.le_refl _) ?_
  refine X_iconst (v := nI 0) (nx := 1) dX8_setThere_0 rfl rfl ?_
  refine X_istore_n (i := 1) (nx := 2) dX8_setThere_1 rfl rfl (by decide) rfl (st_s (st_0)) ?_
  refine X_iconst (v := nI 0) (nx := 3) dX8_setThere_2 rfl rfl ?_
  refine X_istore_n (i := 2) (nx := 4) dX8_setThere_3 rfl rfl (by decide) rfl (st_s (st_s (st_0))) ?_
  (have e := lp_X8_setThere h hV (cm_ B) 0 (Nat.zero_add _); rw [mkn_cm (n := 10) hV.2.1] at e; exact e)
theorem dX8_bits_0 : decode cX8_bits 0 = .ok (.iconst 0, 1) := by decide +kernel
theorem dX8_bits_1 : decode cX8_bits 1 = .ok (.istore_n 1, 1) := by decide +kernel
theorem dX8_bits_2 : decode cX8_bits 2 = .ok (.iconst 0, 1) := by decide +kernel
theorem dX8_bits_3 : decode cX8_bits 3 = .ok (.istore_n 2, 1) := by decide +kernel
theorem dX8_bits_4 : decode cX8_bits 4 = .ok (.iload_n 2, 1) := by decide +kernel
theorem dX8_bits_5 : decode cX8_bits 5 = .ok (.bipush 16, 2) := by decide +kernel
theorem dX8_bits_7 : decode cX8_bits 7 = .ok (.if_icmp .ge 17, 3) := by decide +kernel
theorem dX8_bits_10 : decode cX8_bits 10 = .ok (.iload_n 1, 1) := by decide +kernel
theorem dX8_bits_11 : decode cX8_bits 11 = .ok (.iload_n 0, 1) := by decide +kernel
theorem dX8_bits_12 : decode cX8_bits 12 = .ok (.iload_n 2, 1) := by decide +kernel
theorem dX8_bits_13 : decode cX8_bits 13 = .ok (.ishr, 1) := by decide +kernel
theorem dX8_bits_14 : decode cX8_bits 14 = .ok (.iconst 1, 1) := by decide +kernel
theorem dX8_bits_15 : decode cX8_bits 15 = .ok (.iand, 1) := by decide +kernel
theorem dX8_bits_16 : decode cX8_bits 16 = .ok (.iadd, 1) := by decide +kernel
theorem dX8_bits_17 : decode cX8_bits 17 = .ok (.istore_n 1, 1) := by decide +kernel
theorem dX8_bits_18 : decode cX8_bits 18 = .ok (.iinc 2 1, 3) := by decide +kernel
theorem dX8_bits_21 : decode cX8_bits 21 = .ok (.goto (-17), 3) := by decide +kernel
theorem dX8_bits_24 : decode cX8_bits 24 = .ok (.iload_n 1, 1) := by decide +kernel
theorem dX8_bits_25 : decode cX8_bits 25 = .ok (.ireturn, 1) := by decide +kernel
theorem lp_X8_bits {w : Nat} {D : Mem} (hw : w < 1024) : ∀ (m : Nat) (i : Nat), i + m = 16 → X 1 138 j_X8_bits 4 [some (.int (nI w)), some (.int (nI (bsN w i))), some (.int (nI i))] [] (138, P0, D) (fun x σ => x = [.int (nI (pop w))] ∧ σ = wd D) := by
  intro m
  induction m with
  | zero =>
    intro i hi
    refine X_iload_n (nx := 5) dX8_bits_4 rfl rfl rfl ?_
    refine X_bipush (v := nI 16) (nx := 7) dX8_bits_5 rfl rfl ?_
    refine X_icmp_ge (tgt := 24) (nx := 10) dX8_bits_7 rfl rfl (fun h7 => ?_) (fun h7 => ?_)
    · skip
      refine X_iload_n (nx := 25) dX8_bits_24 rfl rfl rfl ?_
      exact Y_reti dX8_bits_25 (Or.inl rfl) (by rw [show i = 16 by omega, bsN_pop w hw]) rfl
    · exact absurd h7 (fun q => q (nI_le (by omega) (by omega)))
  | succ m ih =>
    intro i hi
    refine X_iload_n (nx := 5) dX8_bits_4 rfl rfl rfl ?_
    refine X_bipush (v := nI 16) (nx := 7) dX8_bits_5 rfl rfl ?_
    refine X_icmp_ge (tgt := 24) (nx := 10) dX8_bits_7 rfl rfl (fun h7 => ?_) (fun h7 => ?_)
    · exact absurd h7 (nI_ge (by omega) (by omega))
    · skip
      refine X_iload_n (nx := 11) dX8_bits_10 rfl rfl rfl ?_
      refine X_iload_n (nx := 12) dX8_bits_11 rfl rfl rfl ?_
      refine X_iload_n (nx := 13) dX8_bits_12 rfl rfl rfl ?_
      refine X_ishr (nx := 14) dX8_bits_13 rfl ?_
      refine X_iconst (v := 1) (nx := 15) dX8_bits_14 rfl rfl ?_
      refine X_iand (nx := 16) dX8_bits_15 rfl ?_
      refine X_top (bit_n (by omega) (by omega)) ?_
      refine X_iadd (nx := 17) dX8_bits_16 rfl ?_
      refine X_top (show _ = nI (bsN w (i + 1)) from nI_add _ _) ?_
      refine X_istore_n (i := 1) (nx := 18) dX8_bits_17 rfl rfl (by decide) rfl (st_s (st_0)) ?_
      refine X_iinc (nx := 21) dX8_bits_18 rfl (by decide) rfl (by first | exact ii1 _ | rfl) rfl (st_s (st_s (st_0))) ?_
      refine X_goto (tgt := 4) dX8_bits_21 rfl ?_
      exact ih (i + 1) (by omega)
theorem sp_X8_bits {w : Nat} {x : Int32} {D : Mem} (hx : x = nI w) (hw : w < 1024) : Ei 1 j_X8_bits [.int x] D (nI (pop w)) (D) := by
  refine E.start 2 (ls := [some (.int x), none, none]) (by decide +kernel) (Nat.le_of_ble_eq_true rfl) rfl (Nat.le_refl _) (Nat.le_refl _) ?_
  subst hx
  refine X_iconst (v := nI 0) (nx := 1) dX8_bits_0 rfl rfl ?_
  refine X_istore_n (i := 1) (nx := 2) dX8_bits_1 rfl rfl (by decide) rfl (st_s (st_0)) ?_
  refine X_iconst (v := nI 0) (nx := 3) dX8_bits_2 rfl rfl ?_
  refine X_istore_n (i := 2) (nx := 4) dX8_bits_3 rfl rfl (by decide) rfl (st_s (st_s (st_0))) ?_
  exact lp_X8_bits hw 16 0 rfl
/-- what books lie in, and nothing else of the state -/
def BKS (b i : Nat) : Prop := (106 ≤ b ∧ b ≤ 113) ∨ (b = 104 ∧ i = 9)
theorem RS.fb {D D' : Mem} {S : St} (h : RS D S) (hf : Fq BKS D D') : RS D' S := by
  obtain ⟨a1, a2, a3, a4, a5, a6, a7⟩ := h
  refine ⟨by rw [hf 104 39 (by unfold BKS; omega)]; exact a1, by rw [hf 104 33 (by unfold BKS; omega)]; exact a2, fun k hk => by rw [hf 125 k (by unfold BKS; omega)]; exact a3 k hk, by rw [hf 104 50 (by unfold BKS; omega)]; exact a4, fun k hk => by rw [hf 137 k (by unfold BKS; omega)]; exact a5 k hk, fun i h1 h2 => by rw [hf 105 i (by unfold BKS; omega)]; exact a6 i h1 h2, fun q => ?_⟩
  have := a7 q
  unfold KB at *
  rw [hf.row (b := 132) (fun i => by unfold BKS; omega)]; exact this
theorem BKS.fr {D D' : Mem} (h : Fq BKS D D') : Fr inR D D' := h.toFr (fun b i hb => by unfold BKS at hb; unfold inR; omega)
theorem rb_T {D : Mem} {B : Bk} {T : Nat → Bool} {K F : Nat → Nat} {r : Nat} {b : Bool} (h : RB D B T K F) : RB (up2 D 108 r (b2i b)) B (fun i => if i = r then b else T i) K F := by
  obtain ⟨h1, h2, h3⟩ := h
  unfold RB
  rw [up2_ne (b := 106) (by omega), up2_ne (b := 107) (by omega), up2_ne (b := 109) (by omega), up2_ne (b := 110) (by omega), up2_ne (b := 111) (by omega), up2_ne (b := 112) (by omega), up2_ne (b := 113) (by omega), up2_other (b := 104) (k := 9) (by omega)]
  refine ⟨h1, h2, fun i hi => ⟨?_, (h3 i hi).2⟩⟩
  by_cases e : i = r
  · subst e; rw [up2_same]; exact congrArg b2i (if_pos rfl).symm
  · rw [up2_other (by omega)]; exact (h3 i hi).1.trans (congrArg b2i (if_neg e).symm)
theorem rb_K {D : Mem} {B : Bk} {T : Nat → Bool} {K F : Nat → Nat} {R k : Nat} (h : RB D B T K F) : RB (up2 D 106 R (nI k)) B T (fun i => if i = R then k else K i) F := by
  obtain ⟨h1, h2, h3⟩ := h
  unfold RB
  rw [up2_ne (b := 107) (by omega), up2_ne (b := 108) (by omega), up2_ne (b := 109) (by omega), up2_ne (b := 110) (by omega), up2_ne (b := 111) (by omega), up2_ne (b := 112) (by omega), up2_ne (b := 113) (by omega), up2_other (b := 104) (k := 9) (by omega)]
  refine ⟨fun i hi => ⟨?_, (h1 i hi).2⟩, h2, h3⟩
  by_cases e : i = R
  · subst e; rw [up2_same]; exact congrArg nI (if_pos rfl).symm
  · rw [up2_other (by omega)]; exact (h1 i hi).1.trans (congrArg nI (if_neg e).symm)
theorem rb_F {D : Mem} {B : Bk} {T : Nat → Bool} {K F : Nat → Nat} {R f : Nat} (h : RB D B T K F) : RB (up2 D 107 R (nI f)) B T K (fun i => if i = R then f else F i) := by
  obtain ⟨h1, h2, h3⟩ := h
  unfold RB
  rw [up2_ne (b := 106) (by omega), up2_ne (b := 108) (by omega), up2_ne (b := 109) (by omega), up2_ne (b := 110) (by omega), up2_ne (b := 111) (by omega), up2_ne (b := 112) (by omega), up2_ne (b := 113) (by omega), up2_other (b := 104) (k := 9) (by omega)]
  refine ⟨fun i hi => ⟨(h1 i hi).1, ?_⟩, h2, h3⟩
  by_cases e : i = R
  · subst e; rw [up2_same]; exact congrArg nI (if_pos rfl).symm
  · rw [up2_other (by omega)]; exact (h1 i hi).2.trans (congrArg nI (if_neg e).symm)
theorem rb_V {D : Mem} {B : Bk} {T : Nat → Bool} {K F : Nat → Nat} {r v : Nat} (h : RB D B T K F) : RB (up2 D 110 r (nI v)) (setV B r v) T K F := by
  obtain ⟨h1, h2, h3⟩ := h
  unfold RB
  rw [up2_ne (b := 106) (by omega), up2_ne (b := 107) (by omega), up2_ne (b := 108) (by omega), up2_ne (b := 109) (by omega), up2_ne (b := 111) (by omega), up2_ne (b := 112) (by omega), up2_ne (b := 113) (by omega), up2_other (b := 104) (k := 9) (by omega)]
  refine ⟨h1, h2, fun i hi => ⟨(h3 i hi).1, (h3 i hi).2.1, ?_, (h3 i hi).2.2.2⟩⟩
  show _ = if i = r then nI v else vb_ B i
  by_cases e : i = r
  · subst e; rw [up2_same, if_pos rfl]
  · rw [up2_other (by omega), if_neg e]; exact (h3 i hi).2.2.1
theorem inv_T {D : Mem} {S : St} {T : Nat → Bool} {K F : Nat → Nat} {r : Nat} {b : Bool} (h : INVT D S T K F) : INVT (up2 D 108 r (b2i b)) S (fun i => if i = r then b else T i) K F ∧ Fr inR D (up2 D 108 r (b2i b)) := ⟨⟨rb_T h.1, h.2.fb (Fq.up (by unfold BKS; omega))⟩, Fr.up (by unfold inR; omega)⟩
theorem inv_K {D : Mem} {S : St} {T : Nat → Bool} {K F : Nat → Nat} {R k : Nat} (h : INVT D S T K F) : INVT (up2 D 106 R (nI k)) S T (fun i => if i = R then k else K i) F ∧ Fr inR D (up2 D 106 R (nI k)) := ⟨⟨rb_K h.1, h.2.fb (Fq.up (by unfold BKS; omega))⟩, Fr.up (by unfold inR; omega)⟩
theorem inv_F {D : Mem} {S : St} {T : Nat → Bool} {K F : Nat → Nat} {R f : Nat} (h : INVT D S T K F) : INVT (up2 D 107 R (nI f)) S T K (fun i => if i = R then f else F i) ∧ Fr inR D (up2 D 107 R (nI f)) := ⟨⟨rb_F h.1, h.2.fb (Fq.up (by unfold BKS; omega))⟩, Fr.up (by unfold inR; omega)⟩
theorem inv_D {D : Mem} {S : St} {r : Nat} (h : INV2 D S) : INV2 (up2 D 108 r 0) (sB S (setT (bk S) r)) ∧ Fr inR D (up2 D 108 r 0) := inv_T (b := false) h
theorem inv_KF {D : Mem} {S : St} {R k f : Nat} (h : INV2 D S) : INV2 (up2 (up2 D 106 R (nI k)) 107 R (nI f)) (sB S (setK (bk S) R k f)) ∧ Fr inR D (up2 (up2 D 106 R (nI k)) 107 R (nI f)) :=
  ⟨(inv_F (R := R) (f := f) (inv_K (R := R) (k := k) h).1).1, (inv_K (R := R) (k := k) h).2.tr (Fr.up (by unfold inR; omega))⟩
theorem inv_V {D : Mem} {S : St} {r v : Nat} (h : INV2 D S) : INV2 (up2 D 110 r (nI v)) (sB S (setV (bk S) r v)) ∧ Fr inR D (up2 D 110 r (nI v)) := ⟨⟨rb_V h.1, h.2.fb (Fq.up (by unfold BKS; omega))⟩, Fr.up (by unfold inR; omega)⟩
theorem vb_setT {B : Bk} {r : Nat} (h : VB B) : VB (setT B r) := VB_T h
theorem dX8_drops_0 : decode cX8_drops 0 = .ok (.aload_n 0, 1) := by decide +kernel
theorem dX8_drops_1 : decode cX8_drops 1 = .ok (.iload_n 1, 1) := by decide +kernel
theorem dX8_drops_2 : decode cX8_drops 2 = .ok (.invokevirtual 254, 3) := by decide +kernel
theorem dX8_drops_5 : decode cX8_drops 5 = .ok (.ifCond .ne 9, 3) := by decide +kernel
theorem dX8_drops_8 : decode cX8_drops 8 = .ok (.aload_n 0, 1) := by decide +kernel
theorem dX8_drops_9 : decode cX8_drops 9 = .ok (.iconst (-1), 1) := by decide +kernel
theorem dX8_drops_10 : decode cX8_drops 10 = .ok (.invokevirtual 211, 3) := by decide +kernel
theorem dX8_drops_13 : decode cX8_drops 13 = .ok (.ireturn, 1) := by decide +kernel
theorem dX8_drops_14 : decode cX8_drops 14 = .ok (.aload_n 0, 1) := by decide +kernel
theorem dX8_drops_15 : decode cX8_drops 15 = .ok (.getfield 19, 3) := by decide +kernel
theorem dX8_drops_18 : decode cX8_drops 18 = .ok (.iload_n 1, 1) := by decide +kernel
theorem dX8_drops_19 : decode cX8_drops 19 = .ok (.iconst 0, 1) := by decide +kernel
theorem dX8_drops_20 : decode cX8_drops 20 = .ok (.iastore, 1) := by decide +kernel
theorem dX8_drops_21 : decode cX8_drops 21 = .ok (.aload_n 0, 1) := by decide +kernel
theorem dX8_drops_22 : decode cX8_drops 22 = .ok (.invokevirtual 290, 3) := by decide +kernel
theorem dX8_drops_25 : decode cX8_drops 25 = .ok (.invokestatic 293, 3) := by decide +kernel
theorem dX8_drops_28 : decode cX8_drops 28 = .ok (.ireturn, 1) := by decide +kernel
theorem sp_X8_drops {x : Int32} {S : St} {D : Mem} (h : INV2 D S) (hw : WF S) : Rix 3 j_X8_drops [.ref 104, .int x] D (fun u D' => CK2 D (m_drops S x) u D') := by
  refine E.start 0 (ls := [some (.ref 104), some (.int x)]) (by decide +kernel) (Nat.le_of_ble_eq_true rfl) rfl (Nat.le_refl _) (Nat.le_refl _) ?_
  have hcm := hw.1.2.1
  have hB2 := h.1.2.1
  refine X_aload_n (nx := 1) dX8_drops_0 rfl rfl rfl ?_
  refine X_iload_n (nx := 2) dX8_drops_1 rfl rfl rfl ?_
  refine Y_Vi1 (nx := 5) dX8_drops_2 rfl ml_RX8_254 kj_X8_isRoute kv_X8_isRoute (sp_X8_isRoute h.1 hw.1) (by first | assumption | rfl | decide | omega) (by first | assumption | rfl | decide | omega) (by decide) rfl (by first | decide | omega) (by exact Nat.le_of_ble_eq_true rfl) ?_
  refine X_top (show _ = b2i (isTh (bk S) x) from rfl) ?_
  refine X_if_ne (tgt := 14) (nx := 8) dX8_drops_5 rfl rfl (fun h5 => ?_) (fun h5 => ?_)
  · skip
    have c5 := b2i_t.mp h5
    obtain ⟨r, hr, rfl, tr⟩ := isTh_t hcm c5
    have k5 : (nI r).toNatClampNeg = r := nI_clamp (by omega)
    have hv := inv_D (r := r) h
    refine X_aload_n (nx := 15) dX8_drops_14 rfl rfl rfl ?_
    refine M_getP (nx := 18) dX8_drops_15 rfl fl_RX8_19 rfl (by first | assumption | rfl | decide | omega) (by first | assumption | rfl | decide | omega) (by first | assumption | rfl | decide | omega) ?_
    refine X_iload_n (nx := 19) dX8_drops_18 rfl rfl rfl ?_
    refine X_iconst (v := 0) (nx := 20) dX8_drops_19 rfl rfl ?_
    refine M_st (a := 108) (L := 10) (nx := 21) dX8_drops_20 rfl (by decide) (by decide) rfl (by decide) (by omega) ?_
    refine X_aload_n (nx := 22) dX8_drops_21 rfl rfl rfl ?_
    refine Y_Vi0 (nx := 25) dX8_drops_22 rfl ml_RX8_290 kj_X8_setThere kv_X8_setThere (sp_X8_setThere hv.1.1 (vb_setT hw.1)) (by first | assumption | rfl | decide | omega) (by first | assumption | rfl | decide | omega) (by decide) rfl (by first | decide | omega) (by exact Nat.le_of_ble_eq_true rfl) ?_
    refine Y_Si1 (nx := 28) dX8_drops_25 rfl ml_RX8_293 kj_X8_bits ks_X8_bits (sp_X8_bits rfl (mkn_lt _ 10)) (by first | decide | omega) (by exact Nat.le_of_ble_eq_true rfl) ?_
    exact Z_reti dX8_drops_28 (Or.inl rfl) (by unfold m_drops; rw [if_pos c5, k5]; exact ck2_s rfl hv.1 hv.2)
  · skip
    have n5 := nb h5
    refine X_aload_n (nx := 9) dX8_drops_8 rfl rfl rfl ?_
    refine X_iconst (v := -1) (nx := 10) dX8_drops_9 rfl rfl ?_
    refine Y_Vi1 (nx := 13) dX8_drops_10 rfl ml_RX8_211 kj_X8_no kv_X8_no (sp_X8_no (k := 1) rfl (by omega) (by omega)) (by first | assumption | rfl | decide | omega) (by first | assumption | rfl | decide | omega) (by decide) rfl (by first | decide | omega) (by exact Nat.le_of_ble_eq_true rfl) ?_
    exact Z_reti dX8_drops_13 (Or.inl rfl) (by unfold m_drops; rw [if_neg n5]; exact ck2_no (k := 1) h Fr.rf (by omega) (by omega))
theorem dX8_kind_0 : decode cX8_kind 0 = .ok (.iload_n 1, 1) := by decide +kernel
theorem dX8_kind_1 : decode cX8_kind 1 = .ok (.invokestatic 240, 3) := by decide +kernel
theorem dX8_kind_4 : decode cX8_kind 4 = .ok (.ifCond .ne 7, 3) := by decide +kernel
theorem dX8_kind_7 : decode cX8_kind 7 = .ok (.iconst (-1), 1) := by decide +kernel
theorem dX8_kind_8 : decode cX8_kind 8 = .ok (.goto 24, 3) := by decide +kernel
theorem dX8_kind_11 : decode cX8_kind 11 = .ok (.iload_n 2, 1) := by decide +kernel
theorem dX8_kind_12 : decode cX8_kind 12 = .ok (.iconst 0, 1) := by decide +kernel
theorem dX8_kind_13 : decode cX8_kind 13 = .ok (.iconst 5, 1) := by decide +kernel
theorem dX8_kind_14 : decode cX8_kind 14 = .ok (.invokestatic 115, 3) := by decide +kernel
theorem dX8_kind_17 : decode cX8_kind 17 = .ok (.ifCond .ne 8, 3) := by decide +kernel
theorem dX8_kind_20 : decode cX8_kind 20 = .ok (.bipush (-2), 2) := by decide +kernel
theorem dX8_kind_22 : decode cX8_kind 22 = .ok (.goto 10, 3) := by decide +kernel
theorem dX8_kind_25 : decode cX8_kind 25 = .ok (.iload_n 3, 1) := by decide +kernel
theorem dX8_kind_26 : decode cX8_kind 26 = .ok (.iconst 0, 1) := by decide +kernel
theorem dX8_kind_27 : decode cX8_kind 27 = .ok (.bipush 9, 2) := by decide +kernel
theorem dX8_kind_29 : decode cX8_kind 29 = .ok (.invokestatic 205, 3) := by decide +kernel
theorem dX8_kind_32 : decode cX8_kind 32 = .ok (.istore 4, 2) := by decide +kernel
theorem dX8_kind_34 : decode cX8_kind 34 = .ok (.iload 4, 2) := by decide +kernel
theorem dX8_kind_36 : decode cX8_kind 36 = .ok (.ifCond .eq 10, 3) := by decide +kernel
theorem dX8_kind_39 : decode cX8_kind 39 = .ok (.aload_n 0, 1) := by decide +kernel
theorem dX8_kind_40 : decode cX8_kind 40 = .ok (.iload 4, 2) := by decide +kernel
theorem dX8_kind_42 : decode cX8_kind 42 = .ok (.invokevirtual 211, 3) := by decide +kernel
theorem dX8_kind_45 : decode cX8_kind 45 = .ok (.ireturn, 1) := by decide +kernel
theorem dX8_kind_46 : decode cX8_kind 46 = .ok (.bipush 10, 2) := by decide +kernel
theorem dX8_kind_48 : decode cX8_kind 48 = .ok (.aload_n 0, 1) := by decide +kernel
theorem dX8_kind_49 : decode cX8_kind 49 = .ok (.getfield 13, 3) := by decide +kernel
theorem dX8_kind_52 : decode cX8_kind 52 = .ok (.iload_n 1, 1) := by decide +kernel
theorem dX8_kind_53 : decode cX8_kind 53 = .ok (.iaload, 1) := by decide +kernel
theorem dX8_kind_54 : decode cX8_kind 54 = .ok (.imul, 1) := by decide +kernel
theorem dX8_kind_55 : decode cX8_kind 55 = .ok (.aload_n 0, 1) := by decide +kernel
theorem dX8_kind_56 : decode cX8_kind 56 = .ok (.getfield 16, 3) := by decide +kernel
theorem dX8_kind_59 : decode cX8_kind 59 = .ok (.iload_n 1, 1) := by decide +kernel
theorem dX8_kind_60 : decode cX8_kind 60 = .ok (.iaload, 1) := by decide +kernel
theorem dX8_kind_61 : decode cX8_kind 61 = .ok (.iadd, 1) := by decide +kernel
theorem dX8_kind_62 : decode cX8_kind 62 = .ok (.istore 5, 2) := by decide +kernel
theorem dX8_kind_64 : decode cX8_kind 64 = .ok (.aload_n 0, 1) := by decide +kernel
theorem dX8_kind_65 : decode cX8_kind 65 = .ok (.getfield 13, 3) := by decide +kernel
theorem dX8_kind_68 : decode cX8_kind 68 = .ok (.iload_n 1, 1) := by decide +kernel
theorem dX8_kind_69 : decode cX8_kind 69 = .ok (.iload_n 2, 1) := by decide +kernel
theorem dX8_kind_70 : decode cX8_kind 70 = .ok (.iastore, 1) := by decide +kernel
theorem dX8_kind_71 : decode cX8_kind 71 = .ok (.aload_n 0, 1) := by decide +kernel
theorem dX8_kind_72 : decode cX8_kind 72 = .ok (.getfield 16, 3) := by decide +kernel
theorem dX8_kind_75 : decode cX8_kind 75 = .ok (.iload_n 1, 1) := by decide +kernel
theorem dX8_kind_76 : decode cX8_kind 76 = .ok (.iload_n 3, 1) := by decide +kernel
theorem dX8_kind_77 : decode cX8_kind 77 = .ok (.iastore, 1) := by decide +kernel
theorem dX8_kind_78 : decode cX8_kind 78 = .ok (.iload 5, 2) := by decide +kernel
theorem dX8_kind_80 : decode cX8_kind 80 = .ok (.ireturn, 1) := by decide +kernel
theorem sp_X8_kind {x y z : Int32} {S : St} {D : Mem} (h : INV2 D S) (hw : WF S) : Rix 3 j_X8_kind [.ref 104, .int x, .int y, .int z] D (fun u D' => CK2 D (m_kind S x y z) u D') := by
  refine E.start 2 (ls := [some (.ref 104), some (.int x), some (.int y), some (.int z), none, none]) (by decide +kernel) (Nat.le_of_ble_eq_true rfl) rfl (Nat.le_refl _) (Nat.le_refl _) ?_
  have hcm := hw.1.2.1
  have hB2 := h.1.2.1
  refine X_iload_n (nx := 1) dX8_kind_0 rfl rfl rfl ?_
  refine Y_Si1 (nx := 4) dX8_kind_1 rfl ml_RX8_240 kj_X8_isRouter ks_X8_isRouter (sp_X8_isRouter) (by first | decide | omega) (by exact Nat.le_of_ble_eq_true rfl) ?_
  refine X_if_ne (tgt := 11) (nx := 7) dX8_kind_4 rfl rfl (fun h4 => ?_) (fun h4 => ?_)
  · skip
    have c4 := b2i_t.mp h4
    refine X_iload_n (nx := 12) dX8_kind_11 rfl rfl rfl ?_
    refine X_iconst (v := 0) (nx := 13) dX8_kind_12 rfl rfl ?_
    refine X_iconst (v := 5) (nx := 14) dX8_kind_13 rfl rfl ?_
    refine Y_Si3 (nx := 17) dX8_kind_14 rfl ml_RX8_115 kj_X8_isIn ks_X8_isIn (sp_X8_isIn) (by first | decide | omega) (by exact Nat.le_of_ble_eq_true rfl) ?_
    refine X_top (congrArg b2i (d_in (n := 5) (by decide))) ?_
    refine X_if_ne (tgt := 25) (nx := 20) dX8_kind_17 rfl rfl (fun h17 => ?_) (fun h17 => ?_)
    · skip
      have c17 := b2i_t.mp h17
      obtain ⟨R, hR, rfl⟩ := ex_nI (N := 3) (n := 3) rfl (by decide) (of_decide_eq_true c4)
      have kR : (nI R).toNatClampNeg = R := nI_clamp (by omega)
      obtain ⟨k, hk, rfl⟩ := ex_nI (x := y) (N := 6) (n := 6) rfl (by decide) (of_decide_eq_true c17)
      have kk : (nI k).toNatClampNeg = k := nI_clamp (by omega)
      refine X_iload_n (nx := 26) dX8_kind_25 rfl rfl rfl ?_
      refine X_iconst (v := 0) (nx := 27) dX8_kind_26 rfl rfl ?_
      refine X_bipush (v := 9) (nx := 29) dX8_kind_27 rfl rfl ?_
      refine Y_Si3 (nx := 32) dX8_kind_29 rfl ml_RX8_205 kj_X8_beyond ks_X8_beyond (sp_X8_beyond) (by first | decide | omega) (by exact Nat.le_of_ble_eq_true rfl) ?_
      by_cases q1 : z < 0
      · rw [if_pos q1]
        refine X_istore (i := 4) (nx := 34) dX8_kind_32 rfl (by decide) rfl (st_s (st_s (st_s (st_s (st_0))))) ?_
        refine X_iload (nx := 36) dX8_kind_34 rfl rfl ?_
        refine X_if_eq (tgt := 46) (nx := 39) dX8_kind_36 rfl rfl (fun h36 => ?_) (fun h36 => ?_)
        · exact absurd h36 (by decide)
        · skip
          refine X_aload_n (nx := 40) dX8_kind_39 rfl rfl rfl ?_
          refine X_iload (nx := 42) dX8_kind_40 rfl rfl ?_
          refine Y_Vi1 (nx := 45) dX8_kind_42 rfl ml_RX8_211 kj_X8_no kv_X8_no (by first | exact sp_X8_no (k := 4) rfl (by omega) (by omega) | exact sp_X8_no (k := 6) rfl (by omega) (by omega)) (by first | assumption | rfl | decide | omega) (by first | assumption | rfl | decide | omega) (by decide) rfl (by first | decide | omega) (by exact Nat.le_of_ble_eq_true rfl) ?_
          exact Z_reti dX8_kind_45 (Or.inl rfl) (by
            unfold m_kind
            rw [if_pos c4, if_pos (show 0 ≤ nI k ∧ nI k < 6 from of_decide_eq_true c17)]
            first
            | (rw [if_pos q1]; exact ck2_no (k := 4) h Fr.rf (by omega) (by omega))
            | (rw [if_neg q1, if_pos q2]; exact ck2_no (k := 6) h Fr.rf (by omega) (by omega)))
      · rw [if_neg q1]
        by_cases q2 : 9 < z
        · rw [if_pos q2]
          refine X_istore (i := 4) (nx := 34) dX8_kind_32 rfl (by decide) rfl (st_s (st_s (st_s (st_s (st_0))))) ?_
          refine X_iload (nx := 36) dX8_kind_34 rfl rfl ?_
          refine X_if_eq (tgt := 46) (nx := 39) dX8_kind_36 rfl rfl (fun h36 => ?_) (fun h36 => ?_)
          · exact absurd h36 (by decide)
          · skip
            refine X_aload_n (nx := 40) dX8_kind_39 rfl rfl rfl ?_
            refine X_iload (nx := 42) dX8_kind_40 rfl rfl ?_
            refine Y_Vi1 (nx := 45) dX8_kind_42 rfl ml_RX8_211 kj_X8_no kv_X8_no (by first | exact sp_X8_no (k := 4) rfl (by omega) (by omega) | exact sp_X8_no (k := 6) rfl (by omega) (by omega)) (by first | assumption | rfl | decide | omega) (by first | assumption | rfl | decide | omega) (by decide) rfl (by first | decide | omega) (by exact Nat.le_of_ble_eq_true rfl) ?_
            exact Z_reti dX8_kind_45 (Or.inl rfl) (by
              unfold m_kind
              rw [if_pos c4, if_pos (show 0 ≤ nI k ∧ nI k < 6 from of_decide_eq_true c17)]
              first
              | (rw [if_pos q1]; exact ck2_no (k := 4) h Fr.rf (by omega) (by omega))
              | (rw [if_neg q1, if_pos q2]; exact ck2_no (k := 6) h Fr.rf (by omega) (by omega)))
        · rw [if_neg q2]
          obtain ⟨f, hf, rfl⟩ := ex_nI (x := z) (N := 10) (n := 10) rfl (by decide) ⟨Int32.not_lt.mp q1, Int32.lt_of_le_of_lt (Int32.not_lt.mp q2) (by decide)⟩
          have kf : (nI f).toNatClampNeg = f := nI_clamp (by omega)
          refine X_istore (i := 4) (nx := 34) dX8_kind_32 rfl (by decide) rfl (st_s (st_s (st_s (st_s (st_0))))) ?_
          refine X_iload (nx := 36) dX8_kind_34 rfl rfl ?_
          refine X_if_eq (tgt := 46) (nx := 39) dX8_kind_36 rfl rfl (fun h36 => ?_) (fun h36 => ?_)
          · skip
            refine X_bipush (v := nI 10) (nx := 48) dX8_kind_46 rfl rfl ?_
            refine X_aload_n (nx := 49) dX8_kind_48 rfl rfl rfl ?_
            refine M_getP (nx := 52) dX8_kind_49 rfl fl_RX8_13 rfl (by first | assumption | rfl | decide | omega) (by first | assumption | rfl | decide | omega) (by first | assumption | rfl | decide | omega) ?_
            refine X_iload_n (nx := 53) dX8_kind_52 rfl rfl rfl ?_
            refine M_ld (a := 106) (L := 3) (nx := 54) dX8_kind_53 rfl (by decide) (by decide) rfl (by decide) (by omega) ((h.1.1 R hR).1) ?_
            refine X_imul (nx := 55) dX8_kind_54 rfl ?_
            refine X_top (mul_nI) ?_
            refine X_aload_n (nx := 56) dX8_kind_55 rfl rfl rfl ?_
            refine M_getP (nx := 59) dX8_kind_56 rfl fl_RX8_16 rfl (by first | assumption | rfl | decide | omega) (by first | assumption | rfl | decide | omega) (by first | assumption | rfl | decide | omega) ?_
            refine X_iload_n (nx := 60) dX8_kind_59 rfl rfl rfl ?_
            refine M_ld (a := 107) (L := 3) (nx := 61) dX8_kind_60 rfl (by decide) (by decide) rfl (by decide) (by omega) ((h.1.1 R hR).2) ?_
            refine X_iadd (nx := 62) dX8_kind_61 rfl ?_
            refine X_top (nI_add _ _) ?_
            refine X_istore (i := 5) (nx := 64) dX8_kind_62 rfl (by decide) rfl (st_s (st_s (st_s (st_s (st_s (st_0)))))) ?_
            refine X_aload_n (nx := 65) dX8_kind_64 rfl rfl rfl ?_
            refine M_getP (nx := 68) dX8_kind_65 rfl fl_RX8_13 rfl (by first | assumption | rfl | decide | omega) (by first | assumption | rfl | decide | omega) (by first | assumption | rfl | decide | omega) ?_
            refine X_iload_n (nx := 69) dX8_kind_68 rfl rfl rfl ?_
            refine X_iload_n (nx := 70) dX8_kind_69 rfl rfl rfl ?_
            refine M_st (a := 106) (L := 3) (nx := 71) dX8_kind_70 rfl (by decide) (by decide) rfl (by decide) (by omega) ?_
            refine X_aload_n (nx := 72) dX8_kind_71 rfl rfl rfl ?_
            refine M_getP (nx := 75) dX8_kind_72 rfl fl_RX8_16 rfl (by first | assumption | rfl | decide | omega) (by first | assumption | rfl | decide | omega) (by first | assumption | rfl | decide | omega) ?_
            refine X_iload_n (nx := 76) dX8_kind_75 rfl rfl rfl ?_
            refine X_iload_n (nx := 77) dX8_kind_76 rfl rfl rfl ?_
            refine M_st (a := 107) (L := 3) (nx := 78) dX8_kind_77 rfl (by decide) (by decide) rfl (by decide) (by omega) ?_
            refine X_iload (nx := 80) dX8_kind_78 rfl rfl ?_
            exact Z_reti dX8_kind_80 (Or.inl rfl) (by unfold m_kind; rw [if_pos c4, if_pos (show 0 ≤ nI k ∧ nI k < 6 from of_decide_eq_true c17), if_neg q1, if_neg q2, kR, kk, kf]; exact ck2_s rfl (inv_KF h).1 (inv_KF h).2)
          · exact absurd h36 (by decide)
    · skip
      have n17 := nb h17
      refine X_bipush (v := -2) (nx := 22) dX8_kind_20 rfl rfl ?_
      refine X_goto (tgt := 32) dX8_kind_22 rfl ?_
      refine X_istore (i := 4) (nx := 34) dX8_kind_32 rfl (by decide) rfl (st_s (st_s (st_s (st_s (st_0))))) ?_
      refine X_iload (nx := 36) dX8_kind_34 rfl rfl ?_
      refine X_if_eq (tgt := 46) (nx := 39) dX8_kind_36 rfl rfl (fun h36 => ?_) (fun h36 => ?_)
      · exact absurd h36 (by decide)
      · skip
        refine X_aload_n (nx := 40) dX8_kind_39 rfl rfl rfl ?_
        refine X_iload (nx := 42) dX8_kind_40 rfl rfl ?_
        refine Y_Vi1 (nx := 45) dX8_kind_42 rfl ml_RX8_211 kj_X8_no kv_X8_no (by first | exact sp_X8_no (k := 1) rfl (by omega) (by omega) | exact sp_X8_no (k := 2) rfl (by omega) (by omega)) (by first | assumption | rfl | decide | omega) (by first | assumption | rfl | decide | omega) (by decide) rfl (by first | decide | omega) (by exact Nat.le_of_ble_eq_true rfl) ?_
        exact Z_reti dX8_kind_45 (Or.inl rfl) (by unfold m_kind; first | (rw [if_neg n4]; exact ck2_no (k := 1) h Fr.rf (by omega) (by omega)) | (rw [if_pos c4, if_neg (show ¬ (0 ≤ y ∧ y < 6) from fun q => n17 (decide_eq_true q))]; exact ck2_no (k := 2) h Fr.rf (by omega) (by omega)))
  · skip
    have n4 := nb h4
    refine X_iconst (v := -1) (nx := 8) dX8_kind_7 rfl rfl ?_
    refine X_goto (tgt := 32) dX8_kind_8 rfl ?_
    refine X_istore (i := 4) (nx := 34) dX8_kind_32 rfl (by decide) rfl (st_s (st_s (st_s (st_s (st_0))))) ?_
    refine X_iload (nx := 36) dX8_kind_34 rfl rfl ?_
    refine X_if_eq (tgt := 46) (nx := 39) dX8_kind_36 rfl rfl (fun h36 => ?_) (fun h36 => ?_)
    · exact absurd h36 (by decide)
    · skip
      refine X_aload_n (nx := 40) dX8_kind_39 rfl rfl rfl ?_
      refine X_iload (nx := 42) dX8_kind_40 rfl rfl ?_
      refine Y_Vi1 (nx := 45) dX8_kind_42 rfl ml_RX8_211 kj_X8_no kv_X8_no (by first | exact sp_X8_no (k := 1) rfl (by omega) (by omega) | exact sp_X8_no (k := 2) rfl (by omega) (by omega)) (by first | assumption | rfl | decide | omega) (by first | assumption | rfl | decide | omega) (by decide) rfl (by first | decide | omega) (by exact Nat.le_of_ble_eq_true rfl) ?_
      exact Z_reti dX8_kind_45 (Or.inl rfl) (by unfold m_kind; first | (rw [if_neg n4]; exact ck2_no (k := 1) h Fr.rf (by omega) (by omega)) | (rw [if_pos c4, if_neg (show ¬ (0 ≤ y ∧ y < 6) from fun q => n17 (decide_eq_true q))]; exact ck2_no (k := 2) h Fr.rf (by omega) (by omega)))
theorem dX8_verb_0 : decode cX8_verb 0 = .ok (.aload_n 0, 1) := by decide +kernel
theorem dX8_verb_1 : decode cX8_verb 1 = .ok (.iload_n 1, 1) := by decide +kernel
theorem dX8_verb_2 : decode cX8_verb 2 = .ok (.invokevirtual 254, 3) := by decide +kernel
theorem dX8_verb_5 : decode cX8_verb 5 = .ok (.ifCond .ne 7, 3) := by decide +kernel
theorem dX8_verb_8 : decode cX8_verb 8 = .ok (.iconst (-1), 1) := by decide +kernel
theorem dX8_verb_9 : decode cX8_verb 9 = .ok (.goto 29, 3) := by decide +kernel
theorem dX8_verb_12 : decode cX8_verb 12 = .ok (.aload_n 0, 1) := by decide +kernel
theorem dX8_verb_13 : decode cX8_verb 13 = .ok (.iload_n 1, 1) := by decide +kernel
theorem dX8_verb_14 : decode cX8_verb 14 = .ok (.invokevirtual 127, 3) := by decide +kernel
theorem dX8_verb_17 : decode cX8_verb 17 = .ok (.ifCond .eq 8, 3) := by decide +kernel
theorem dX8_verb_20 : decode cX8_verb 20 = .ok (.bipush (-3), 2) := by decide +kernel
theorem dX8_verb_22 : decode cX8_verb 22 = .ok (.goto 16, 3) := by decide +kernel
theorem dX8_verb_25 : decode cX8_verb 25 = .ok (.iload_n 2, 1) := by decide +kernel
theorem dX8_verb_26 : decode cX8_verb 26 = .ok (.invokestatic 243, 3) := by decide +kernel
theorem dX8_verb_29 : decode cX8_verb 29 = .ok (.ifCond .ne 8, 3) := by decide +kernel
theorem dX8_verb_32 : decode cX8_verb 32 = .ok (.bipush (-2), 2) := by decide +kernel
theorem dX8_verb_34 : decode cX8_verb 34 = .ok (.goto 4, 3) := by decide +kernel
theorem dX8_verb_37 : decode cX8_verb 37 = .ok (.iconst 0, 1) := by decide +kernel
theorem dX8_verb_38 : decode cX8_verb 38 = .ok (.istore_n 3, 1) := by decide +kernel
theorem dX8_verb_39 : decode cX8_verb 39 = .ok (.iload_n 3, 1) := by decide +kernel
theorem dX8_verb_40 : decode cX8_verb 40 = .ok (.ifCond .eq 9, 3) := by decide +kernel
theorem dX8_verb_43 : decode cX8_verb 43 = .ok (.aload_n 0, 1) := by decide +kernel
theorem dX8_verb_44 : decode cX8_verb 44 = .ok (.iload_n 3, 1) := by decide +kernel
theorem dX8_verb_45 : decode cX8_verb 45 = .ok (.invokevirtual 211, 3) := by decide +kernel
theorem dX8_verb_48 : decode cX8_verb 48 = .ok (.ireturn, 1) := by decide +kernel
theorem dX8_verb_49 : decode cX8_verb 49 = .ok (.aload_n 0, 1) := by decide +kernel
theorem dX8_verb_50 : decode cX8_verb 50 = .ok (.getfield 25, 3) := by decide +kernel
theorem dX8_verb_53 : decode cX8_verb 53 = .ok (.iload_n 1, 1) := by decide +kernel
theorem dX8_verb_54 : decode cX8_verb 54 = .ok (.iaload, 1) := by decide +kernel
theorem dX8_verb_55 : decode cX8_verb 55 = .ok (.istore 4, 2) := by decide +kernel
theorem dX8_verb_57 : decode cX8_verb 57 = .ok (.aload_n 0, 1) := by decide +kernel
theorem dX8_verb_58 : decode cX8_verb 58 = .ok (.getfield 25, 3) := by decide +kernel
theorem dX8_verb_61 : decode cX8_verb 61 = .ok (.iload_n 1, 1) := by decide +kernel
theorem dX8_verb_62 : decode cX8_verb 62 = .ok (.iload_n 2, 1) := by decide +kernel
theorem dX8_verb_63 : decode cX8_verb 63 = .ok (.iastore, 1) := by decide +kernel
theorem dX8_verb_64 : decode cX8_verb 64 = .ok (.iload 4, 2) := by decide +kernel
theorem dX8_verb_66 : decode cX8_verb 66 = .ok (.ireturn, 1) := by decide +kernel
theorem sp_X8_verb {x y : Int32} {S : St} {D : Mem} (h : INV2 D S) (hw : WF S) : Rix 3 j_X8_verb [.ref 104, .int x, .int y] D (fun u D' => CK2 D (m_verb S x y) u D') := by
  refine E.start 2 (ls := [some (.ref 104), some (.int x), some (.int y), none, none]) (by decide +kernel) (Nat.le_of_ble_eq_true rfl) rfl (Nat.le_refl _) (Nat.le_refl _) ?_
  have hcm := hw.1.2.1
  have hB2 := h.1.2.1
  refine X_aload_n (nx := 1) dX8_verb_0 rfl rfl rfl ?_
  refine X_iload_n (nx := 2) dX8_verb_1 rfl rfl rfl ?_
  refine Y_Vi1 (nx := 5) dX8_verb_2 rfl ml_RX8_254 kj_X8_isRoute kv_X8_isRoute (sp_X8_isRoute h.1 hw.1) (by first | assumption | rfl | decide | omega) (by first | assumption | rfl | decide | omega) (by decide) rfl (by first | decide | omega) (by exact Nat.le_of_ble_eq_true rfl) ?_
  refine X_top (show _ = b2i (isTh (bk S) x) from rfl) ?_
  refine X_if_ne (tgt := 12) (nx := 8) dX8_verb_5 rfl rfl (fun h5 => ?_) (fun h5 => ?_)
  · skip
    have c5 := b2i_t.mp h5
    obtain ⟨r, hr, rfl, tr⟩ := isTh_t hcm c5
    have k5 : (nI r).toNatClampNeg = r := nI_clamp (by omega)
    refine X_aload_n (nx := 13) dX8_verb_12 rfl rfl rfl ?_
    refine X_iload_n (nx := 14) dX8_verb_13 rfl rfl rfl ?_
    refine Y_Vi1 (nx := 17) dX8_verb_14 rfl ml_RX8_127 kj_X8_isMount kv_X8_isMount (sp_X8_isMount h.1 hw.1 rfl hr) (by first | assumption | rfl | decide | omega) (by first | assumption | rfl | decide | omega) (by decide) rfl (by first | decide | omega) (by exact Nat.le_of_ble_eq_true rfl) ?_
    refine X_if_eq (tgt := 25) (nx := 20) dX8_verb_17 rfl rfl (fun h17 => ?_) (fun h17 => ?_)
    · skip
      have n17 := nb h17
      refine X_iload_n (nx := 26) dX8_verb_25 rfl rfl rfl ?_
      refine Y_Si1 (nx := 29) dX8_verb_26 rfl ml_RX8_243 kj_X8_isVerb ks_X8_isVerb (sp_X8_isVerb) (by first | decide | omega) (by exact Nat.le_of_ble_eq_true rfl) ?_
      refine X_if_ne (tgt := 37) (nx := 32) dX8_verb_29 rfl rfl (fun h29 => ?_) (fun h29 => ?_)
      · skip
        have c29 := b2i_t.mp h29
        obtain ⟨v, hv, rfl⟩ := ex_nI (N := 4) (n := 4) rfl (by decide) (of_decide_eq_true c29)
        have k29 : (nI v).toNatClampNeg = v := nI_clamp (by omega)
        refine X_iconst (v := 0) (nx := 38) dX8_verb_37 rfl rfl ?_
        refine X_istore_n (i := 3) (nx := 39) dX8_verb_38 rfl rfl (by decide) rfl (st_s (st_s (st_s (st_0)))) ?_
        refine X_iload_n (nx := 40) dX8_verb_39 rfl rfl rfl ?_
        refine X_if_eq (tgt := 49) (nx := 43) dX8_verb_40 rfl rfl (fun h40 => ?_) (fun h40 => ?_)
        · skip
          refine X_aload_n (nx := 50) dX8_verb_49 rfl rfl rfl ?_
          refine M_getP (nx := 53) dX8_verb_50 rfl fl_RX8_25 rfl (by first | assumption | rfl | decide | omega) (by first | assumption | rfl | decide | omega) (by first | assumption | rfl | decide | omega) ?_
          refine X_iload_n (nx := 54) dX8_verb_53 rfl rfl rfl ?_
          refine M_ld (a := 110) (L := 10) (nx := 55) dX8_verb_54 rfl (by decide) (by decide) rfl (by decide) (by omega) ((h.1.2.2 r hr).2.2.1) ?_
          refine X_istore (i := 4) (nx := 57) dX8_verb_55 rfl (by decide) rfl (st_s (st_s (st_s (st_s (st_0))))) ?_
          refine X_aload_n (nx := 58) dX8_verb_57 rfl rfl rfl ?_
          refine M_getP (nx := 61) dX8_verb_58 rfl fl_RX8_25 rfl (by first | assumption | rfl | decide | omega) (by first | assumption | rfl | decide | omega) (by first | assumption | rfl | decide | omega) ?_
          refine X_iload_n (nx := 62) dX8_verb_61 rfl rfl rfl ?_
          refine X_iload_n (nx := 63) dX8_verb_62 rfl rfl rfl ?_
          refine M_st (a := 110) (L := 10) (nx := 64) dX8_verb_63 rfl (by decide) (by decide) rfl (by decide) (by omega) ?_
          refine X_iload (nx := 66) dX8_verb_64 rfl rfl ?_
          exact Z_reti dX8_verb_66 (Or.inl rfl) (by unfold m_verb; rw [if_pos c5, k5, if_neg n17, if_pos c29, k29]; exact ck2_s rfl (inv_V h).1 (inv_V h).2)
        · exact absurd h40 (by decide)
      · skip
        have n29 := nb h29
        refine X_bipush (v := -2) (nx := 34) dX8_verb_32 rfl rfl ?_
        refine X_goto (tgt := 38) dX8_verb_34 rfl ?_
        refine X_istore_n (i := 3) (nx := 39) dX8_verb_38 rfl rfl (by decide) rfl (st_s (st_s (st_s (st_0)))) ?_
        refine X_iload_n (nx := 40) dX8_verb_39 rfl rfl rfl ?_
        refine X_if_eq (tgt := 49) (nx := 43) dX8_verb_40 rfl rfl (fun h40 => ?_) (fun h40 => ?_)
        · exact absurd h40 (by decide)
        · skip
          refine X_aload_n (nx := 44) dX8_verb_43 rfl rfl rfl ?_
          refine X_iload_n (nx := 45) dX8_verb_44 rfl rfl rfl ?_
          refine Y_Vi1 (nx := 48) dX8_verb_45 rfl ml_RX8_211 kj_X8_no kv_X8_no (by first | exact sp_X8_no (k := 1) rfl (by omega) (by omega) | exact sp_X8_no (k := 2) rfl (by omega) (by omega) | exact sp_X8_no (k := 3) rfl (by omega) (by omega)) (by first | assumption | rfl | decide | omega) (by first | assumption | rfl | decide | omega) (by decide) rfl (by first | decide | omega) (by exact Nat.le_of_ble_eq_true rfl) ?_
          exact Z_reti dX8_verb_48 (Or.inl rfl) (by
            unfold m_verb
            first
            | (rw [if_neg n5]; exact ck2_no (k := 1) h Fr.rf (by omega) (by omega))
            | (rw [if_pos c5, k5, if_pos c17]; exact ck2_no (k := 3) h Fr.rf (by omega) (by omega))
            | (rw [if_pos c5, k5, if_neg n17, if_neg n29]; exact ck2_no (k := 2) h Fr.rf (by omega) (by omega)))
    · skip
      have c17 := b2i_t.mp h17
      refine X_bipush (v := -3) (nx := 22) dX8_verb_20 rfl rfl ?_
      refine X_goto (tgt := 38) dX8_verb_22 rfl ?_
      refine X_istore_n (i := 3) (nx := 39) dX8_verb_38 rfl rfl (by decide) rfl (st_s (st_s (st_s (st_0)))) ?_
      refine X_iload_n (nx := 40) dX8_verb_39 rfl rfl rfl ?_
      refine X_if_eq (tgt := 49) (nx := 43) dX8_verb_40 rfl rfl (fun h40 => ?_) (fun h40 => ?_)
      · exact absurd h40 (by decide)
      · skip
        refine X_aload_n (nx := 44) dX8_verb_43 rfl rfl rfl ?_
        refine X_iload_n (nx := 45) dX8_verb_44 rfl rfl rfl ?_
        refine Y_Vi1 (nx := 48) dX8_verb_45 rfl ml_RX8_211 kj_X8_no kv_X8_no (by first | exact sp_X8_no (k := 1) rfl (by omega) (by omega) | exact sp_X8_no (k := 2) rfl (by omega) (by omega) | exact sp_X8_no (k := 3) rfl (by omega) (by omega)) (by first | assumption | rfl | decide | omega) (by first | assumption | rfl | decide | omega) (by decide) rfl (by first | decide | omega) (by exact Nat.le_of_ble_eq_true rfl) ?_
        exact Z_reti dX8_verb_48 (Or.inl rfl) (by
          unfold m_verb
          first
          | (rw [if_neg n5]; exact ck2_no (k := 1) h Fr.rf (by omega) (by omega))
          | (rw [if_pos c5, k5, if_pos c17]; exact ck2_no (k := 3) h Fr.rf (by omega) (by omega))
          | (rw [if_pos c5, k5, if_neg n17, if_neg n29]; exact ck2_no (k := 2) h Fr.rf (by omega) (by omega)))
  · skip
    have n5 := nb h5
    refine X_iconst (v := -1) (nx := 9) dX8_verb_8 rfl rfl ?_
    refine X_goto (tgt := 38) dX8_verb_9 rfl ?_
    refine X_istore_n (i := 3) (nx := 39) dX8_verb_38 rfl rfl (by decide) rfl (st_s (st_s (st_s (st_0)))) ?_
    refine X_iload_n (nx := 40) dX8_verb_39 rfl rfl rfl ?_
    refine X_if_eq (tgt := 49) (nx := 43) dX8_verb_40 rfl rfl (fun h40 => ?_) (fun h40 => ?_)
    · exact absurd h40 (by decide)
    · skip
      refine X_aload_n (nx := 44) dX8_verb_43 rfl rfl rfl ?_
      refine X_iload_n (nx := 45) dX8_verb_44 rfl rfl rfl ?_
      refine Y_Vi1 (nx := 48) dX8_verb_45 rfl ml_RX8_211 kj_X8_no kv_X8_no (by first | exact sp_X8_no (k := 1) rfl (by omega) (by omega) | exact sp_X8_no (k := 2) rfl (by omega) (by omega) | exact sp_X8_no (k := 3) rfl (by omega) (by omega)) (by first | assumption | rfl | decide | omega) (by first | assumption | rfl | decide | omega) (by decide) rfl (by first | decide | omega) (by exact Nat.le_of_ble_eq_true rfl) ?_
      exact Z_reti dX8_verb_48 (Or.inl rfl) (by
        unfold m_verb
        first
        | (rw [if_neg n5]; exact ck2_no (k := 1) h Fr.rf (by omega) (by omega))
        | (rw [if_pos c5, k5, if_pos c17]; exact ck2_no (k := 3) h Fr.rf (by omega) (by omega))
        | (rw [if_pos c5, k5, if_neg n17, if_neg n29]; exact ck2_no (k := 2) h Fr.rf (by omega) (by omega)))
