/-! THE CALLS, abstractly (answer and state behind), and the class's methods -/
def no_ (S : St) (k : Nat) : Int32 × St := (-(nI k), (bk S, kp S, im S, tl S, rw_ S, fun i => if i = k then rf S k + 1 else rf S i))
def CK (D : Mem) (r : Int32 × St) (u : Int32) (D' : Mem) : Prop := u = r.1 ∧ INV1 D' r.2 ∧ Fr inC D D'
def CL (D : Mem) (r : Int64 × St) (u : Int64) (D' : Mem) : Prop := u = r.1 ∧ INV1 D' r.2 ∧ Fr inC D D'
theorem nb {p : Bool} (h : b2i p = 0) : ¬ p = true := fun q => b2i_t.mpr q h
theorem ex_nI {x N : Int32} {n : Nat} (hN : N = nI n) (hn : n < 2147483648) (h : 0 ≤ x ∧ x < N) : ∃ p, p < n ∧ x = nI p := by
  obtain ⟨j, h1, h2, _⟩ := pk_mu (x := x) (L := n) (Int32.not_lt.mpr h.1) (Int32.not_le.mpr (hN ▸ h.2)) hn
  exact ⟨j, h1, h2⟩
theorem inv_no {D : Mem} {S : St} {K F : Nat → Nat} {k : Nat} (h : INVK D S K F) : INVK (up2 D 103 k (D 103 k + 1)) (no_ S k).2 K F ∧ Fr inC D (up2 D 103 k (D 103 k + 1)) := by
  refine ⟨⟨h.1.fr (fun b _ _ => up2_ne (by omega)), ?_, h.2.2.fr (fun b _ _ => up2_ne (by omega)) (up2_other (by omega))⟩, Fr.up (by unfold inC; omega)⟩
  obtain ⟨g1, g2, g3, g4, g5, g6⟩ := h.2.1
  refine ⟨(up2_other (by omega)).trans g1, g2.fr (up2_ne (by omega)) (up2_ne (by omega)), g3.fr (up2_ne (by omega)) (up2_ne (by omega)), fun i h1 h2 => ?_, g5, g6⟩
  show _ = if i = k then rf S k + 1 else rf S i
  by_cases e : i = k
  · subst e; rw [if_pos rfl, up2_same, g4 i h1 h2]
  · rw [if_neg e, up2_other (by omega), g4 i h1 h2]
theorem ck_no {D D1 : Mem} {S : St} {k : Nat} (h : INV1 D1 S) (hf : Fr inC D D1) (h1 : 1 ≤ k) (h2 : k < 7) : CK D (no_ S k) (-(nI k)) (up2 D1 103 k (D1 103 k + 1)) :=
  ⟨rfl, (inv_no h).1, hf.tr (inv_no h).2⟩
theorem neg_neg_nI {k : Nat} : - -(nI k) = nI k := Int32.neg_neg
theorem dX7_refuse_0 : decode cX7_refuse 0 = .ok (.aload_n 0, 1) := by decide +kernel
theorem dX7_refuse_1 : decode cX7_refuse 1 = .ok (.getfield 48, 3) := by decide +kernel
theorem dX7_refuse_4 : decode cX7_refuse 4 = .ok (.iload_n 1, 1) := by decide +kernel
theorem dX7_refuse_5 : decode cX7_refuse 5 = .ok (.ineg, 1) := by decide +kernel
theorem dX7_refuse_6 : decode cX7_refuse 6 = .ok (.aload_n 0, 1) := by decide +kernel
theorem dX7_refuse_7 : decode cX7_refuse 7 = .ok (.getfield 48, 3) := by decide +kernel
theorem dX7_refuse_10 : decode cX7_refuse 10 = .ok (.iload_n 1, 1) := by decide +kernel
theorem dX7_refuse_11 : decode cX7_refuse 11 = .ok (.ineg, 1) := by decide +kernel
theorem dX7_refuse_12 : decode cX7_refuse 12 = .ok (.invokestatic 92, 3) := by decide +kernel
theorem dX7_refuse_15 : decode cX7_refuse 15 = .ok (.iconst 1, 1) := by decide +kernel
theorem dX7_refuse_16 : decode cX7_refuse 16 = .ok (.iadd, 1) := by decide +kernel
theorem dX7_refuse_17 : decode cX7_refuse 17 = .ok (.invokestatic 99, 3) := by decide +kernel
theorem dX7_refuse_20 : decode cX7_refuse 20 = .ok (.iload_n 1, 1) := by decide +kernel
theorem dX7_refuse_21 : decode cX7_refuse 21 = .ok (.ireturn, 1) := by decide +kernel
theorem sp_X7_refuse {k : Nat} {x : Int32} {D : Mem} (hx : x = -(nI k)) (h1 : 1 ≤ k) (h2 : k < 7) : Ei 2 j_X7_refuse [.ref 0, .int x] D ((-(nI k))) (up2 D 103 k (D 103 k + 1)) := by
  refine E.start 0 (ls := [some (.ref 0), some (.int x)]) (by decide +kernel) (Nat.le_of_ble_eq_true rfl) rfl (Nat.le_refl _) (Nat.le_refl _) ?_
  subst hx
  have hly : (lay 103).2 = 7 := by decide
  refine X_aload_n (nx := 1) dX7_refuse_0 rfl rfl rfl ?_
  refine M_getP (nx := 4) dX7_refuse_1 rfl fl_RX7_48 rfl (by first | assumption | rfl | decide | omega) (by first | assumption | rfl | decide | omega) (by first | assumption | rfl | decide | omega) ?_
  refine X_iload_n (nx := 5) dX7_refuse_4 rfl rfl rfl ?_
  refine X_ineg (nx := 6) dX7_refuse_5 rfl ?_
  refine X_top (neg_neg_nI) ?_
  refine X_aload_n (nx := 7) dX7_refuse_6 rfl rfl rfl ?_
  refine M_getP (nx := 10) dX7_refuse_7 rfl fl_RX7_48 rfl (by first | assumption | rfl | decide | omega) (by first | assumption | rfl | decide | omega) (by first | assumption | rfl | decide | omega) ?_
  refine X_iload_n (nx := 11) dX7_refuse_10 rfl rfl rfl ?_
  refine X_ineg (nx := 12) dX7_refuse_11 rfl ?_
  refine X_top (neg_neg_nI) ?_
  refine Y_Si2 (nx := 15) dX7_refuse_12 rfl ml_RX7_92 kj_X7_numberAt ks_X7_numberAt (sp_X7_numberAt (i := k) (by decide) (by decide) rfl (by omega)) (by first | decide | omega) (by exact Nat.le_of_ble_eq_true rfl) ?_
  refine X_iconst (v := 1) (nx := 16) dX7_refuse_15 rfl rfl ?_
  refine X_iadd (nx := 17) dX7_refuse_16 rfl ?_
  refine Y_Sv3 (nx := 20) dX7_refuse_17 rfl ml_RX7_99 kj_X7_put ks_X7_put (sp_X7_put (i := k) (by decide) (by decide) rfl (by omega)) (by first | decide | omega) (by exact Nat.le_of_ble_eq_true rfl) ?_
  refine X_iload_n (nx := 21) dX7_refuse_20 rfl rfl rfl ?_
  exact Y_reti dX7_refuse_21 (Or.inl rfl) rfl rfl
theorem dX7_refuseLong_0 : decode cX7_refuseLong 0 = .ok (.ldc2_w 266, 3) := by decide +kernel
theorem dX7_refuseLong_3 : decode cX7_refuseLong 3 = .ok (.aload_n 0, 1) := by decide +kernel
theorem dX7_refuseLong_4 : decode cX7_refuseLong 4 = .ok (.iload_n 1, 1) := by decide +kernel
theorem dX7_refuseLong_5 : decode cX7_refuseLong 5 = .ok (.invokevirtual 51, 3) := by decide +kernel
theorem dX7_refuseLong_8 : decode cX7_refuseLong 8 = .ok (.i2l, 1) := by decide +kernel
theorem dX7_refuseLong_9 : decode cX7_refuseLong 9 = .ok (.lsub, 1) := by decide +kernel
theorem dX7_refuseLong_10 : decode cX7_refuseLong 10 = .ok (.lreturn, 1) := by decide +kernel
theorem sp_X7_refuseLong {k : Nat} {x : Int32} {D : Mem} (hx : x = -(nI k)) (h1 : 1 ≤ k) (h2 : k < 7) : El 3 j_X7_refuseLong [.ref 0, .int x] D ((4000000000000000000 - (-(nI k)).toInt64)) (up2 D 103 k (D 103 k + 1)) := by
  refine E.start 0 (ls := [some (.ref 0), some (.int x)]) (by decide +kernel) (Nat.le_of_ble_eq_true rfl) rfl (Nat.le_refl _) (Nat.le_refl _) ?_
  subst hx
  refine X_ldc2 (nx := 3) dX7_refuseLong_0 rfl ct_RX7_266 ?_
  refine X_aload_n (nx := 4) dX7_refuseLong_3 rfl rfl rfl ?_
  refine X_iload_n (nx := 5) dX7_refuseLong_4 rfl rfl rfl ?_
  refine Y_Vi1 (nx := 8) dX7_refuseLong_5 rfl ml_RX7_51 kj_X7_refuse kv_X7_refuse (sp_X7_refuse rfl h1 h2) (by first | assumption | rfl | decide | omega) (by first | assumption | rfl | decide | omega) (by decide) rfl (by first | decide | omega) (by exact Nat.le_of_ble_eq_true rfl) ?_
  refine X_i2l (nx := 9) dX7_refuseLong_8 rfl ?_
  refine X_lsub (nx := 10) dX7_refuseLong_9 rfl ?_
  exact Y_retl dX7_refuseLong_10 rfl rfl rfl
def wS (S : St) : Nat := mkn (thN (bk S)) 10
theorem wS_lt (S : St) : wS S < 1024 := mkn_lt _ 10
def MT (S : St) (v p : Nat) : LR := mt (bk S) (wS S) v p (kd_ (bk S)) (fg_ (bk S))
def ME (S : St) (v p : Nat) : Option Nat := mtE (bk S) (wS S) v p (kd_ (bk S)) (fg_ (bk S))
def m_match (S : St) (x y : Int32) : Int32 × St :=
  if decide (0 ≤ x ∧ x < 341) = true then if decide (0 ≤ y ∧ y < 4) = true then (opI (ME S y.toNatClampNeg x.toNatClampNeg), S) else no_ S 2 else no_ S 1
def m_looked (S : St) (x y : Int32) : Int32 × St :=
  if decide (0 ≤ x ∧ x < 341) = true then if decide (0 ≤ y ∧ y < 4) = true then (nI (MT S y.toNatClampNeg x.toNatClampNeg).2, S) else no_ S 2 else no_ S 1
def m_matched (S : St) (y : Int32) : Int32 × St :=
  if decide (0 ≤ y ∧ y < 4) = true then (nI (cn (fun p => (ME S y.toNatClampNeg p).isSome) 341), S) else no_ S 2
def m_verbs (S : St) (x : Int32) : Int32 × St :=
  if decide (0 ≤ x ∧ x < 341) = true then (nI (mkn (fun v => (ME S v x.toNatClampNeg).isSome) 4), S) else no_ S 1
def m_without (S : St) (r x y : Int32) : Int32 × St :=
  if isTh (bk S) r = true then if decide (0 ≤ x ∧ x < 341) = true then if decide (0 ≤ y ∧ y < 4) = true then
    (opI (mtE (bk S) (mkn (fun i => thN (bk S) i && !decide (i = r.toNatClampNeg)) 10) y.toNatClampNeg x.toNatClampNeg (kd_ (bk S)) (fg_ (bk S))), S) else no_ S 2 else no_ S 1 else no_ S 1
def m_nodes (S : St) (x : Int32) : Int32 × St :=
  if decide (0 ≤ x ∧ x < 3) = true then (nI (ndc (nlG (bk S) 10) x.toNatClampNeg (nlG (bk S) 10).length), S) else no_ S 1
def m_letterOf (S : St) (x y : Int32) : Int32 × St :=
  if decide (0 ≤ x ∧ x < 341) = true then if y = -1 then (nI (pathL x.toNatClampNeg).length, S) else if 0 ≤ y ∧ y < nI (pathL x.toNatClampNeg).length then (nI ((pathL x.toNatClampNeg).getD y.toNatClampNeg 0), S) else no_ S 1 else no_ S 1
def m_segment (S : St) (r y : Int32) : Int32 × St :=
  if isTh (bk S) r = true then if 0 ≤ y ∧ y < nI (sg_ (bk S) r.toNatClampNeg).length then (nI ((sg_ (bk S) r.toNatClampNeg).getD y.toNatClampNeg 0), S) else no_ S 1 else no_ S 1
def m_route (S : St) (r y : Int32) : Int32 × St :=
  if isTh (bk S) r = true then
    if y = 0 then (nI (ro_ (bk S) r.toNatClampNeg), S) else if y = 1 then (vb_ (bk S) r.toNatClampNeg, S) else if y = 2 then (mo_ (bk S) r.toNatClampNeg, S)
    else if y = 3 then (nI (sg_ (bk S) r.toNatClampNeg).length, S) else if y = 4 then (nI (mkn (fun k => (plOf (sg_ (bk S) r.toNatClampNeg) k 0 (pl (sg_ (bk S) r.toNatClampNeg))).isSome) 4), S)
    else if y = 5 then (b2i (rsB (bk S) r.toNatClampNeg), S) else no_ S 2
  else no_ S 1
def m_count (S : St) (y : Int32) : Int32 × St :=
  if y = 0 then (nI (cm_ (bk S)), S) else if y = 1 then (nI (wS S), S) else if y = 2 then (nI (mkn (fun i => thN (bk S) i && mtB (bk S) i) 10), S)
  else if y = 3 then (nI (sumN (sgs (bk S)) 10), S) else if y = 4 then (nI (nlG (bk S) 10).length, S) else if y = 5 then (nI (rw_ S).length, S) else if y = 6 then (nI (tl S).length, S)
  else if 11 ≤ y ∧ y ≤ 16 then (rf S (y.toNatClampNeg - 10), S) else (-9, S)
def m_letter (S : St) (x : Int32) : Int32 × St :=
  if x < 0 then no_ S 4 else if 255 < x ∨ 96 ≤ (tl S).length then no_ S 6 else (nI ((tl S).length + 1), (bk S, kp S, im S, tl S ++ [x.toNatClampNeg], rw_ S, rf S))
def m_row (S : St) (x : Int32) : Int32 × St :=
  if x < 0 then no_ S 4 else if 99 < x ∨ 30 ≤ (rw_ S).length then no_ S 6 else (nI ((rw_ S).length + 1), (bk S, kp S, im S, tl S, rw_ S ++ [x.toNatClampNeg], rf S))
def m_clear (S : St) : Int32 × St := (nI (rw_ S).length, (bk S, kp S, im S, tl S, [], rf S))
theorem ck_s {D D' : Mem} {S : St} {u v : Int32} (hu : u = v) (h : INV1 D' S) (hf : Fr inC D D') : CK D (v, S) u D' := ⟨hu, h, hf⟩
theorem dX7_match_0 : decode cX7_match 0 = .ok (.iload_n 1, 1) := by decide +kernel
theorem dX7_match_1 : decode cX7_match 1 = .ok (.invokestatic 167, 3) := by decide +kernel
theorem dX7_match_4 : decode cX7_match 4 = .ok (.ifCond .ne 9, 3) := by decide +kernel
theorem dX7_match_7 : decode cX7_match 7 = .ok (.aload_n 0, 1) := by decide +kernel
theorem dX7_match_8 : decode cX7_match 8 = .ok (.iconst (-1), 1) := by decide +kernel
theorem dX7_match_9 : decode cX7_match 9 = .ok (.invokevirtual 51, 3) := by decide +kernel
theorem dX7_match_12 : decode cX7_match 12 = .ok (.ireturn, 1) := by decide +kernel
theorem dX7_match_13 : decode cX7_match 13 = .ok (.iload_n 2, 1) := by decide +kernel
theorem dX7_match_14 : decode cX7_match 14 = .ok (.invokestatic 115, 3) := by decide +kernel
theorem dX7_match_17 : decode cX7_match 17 = .ok (.ifCond .ne 10, 3) := by decide +kernel
theorem dX7_match_20 : decode cX7_match 20 = .ok (.aload_n 0, 1) := by decide +kernel
theorem dX7_match_21 : decode cX7_match 21 = .ok (.bipush (-2), 2) := by decide +kernel
theorem dX7_match_23 : decode cX7_match 23 = .ok (.invokevirtual 51, 3) := by decide +kernel
theorem dX7_match_26 : decode cX7_match 26 = .ok (.ireturn, 1) := by decide +kernel
theorem dX7_match_27 : decode cX7_match 27 = .ok (.aload_n 0, 1) := by decide +kernel
theorem dX7_match_28 : decode cX7_match 28 = .ok (.getfield 25, 3) := by decide +kernel
theorem dX7_match_31 : decode cX7_match 31 = .ok (.iload_n 1, 1) := by decide +kernel
theorem dX7_match_32 : decode cX7_match 32 = .ok (.iload_n 2, 1) := by decide +kernel
theorem dX7_match_33 : decode cX7_match 33 = .ok (.aload_n 0, 1) := by decide +kernel
theorem dX7_match_34 : decode cX7_match 34 = .ok (.getfield 10, 3) := by decide +kernel
theorem dX7_match_37 : decode cX7_match 37 = .ok (.invokevirtual 125, 3) := by decide +kernel
theorem dX7_match_40 : decode cX7_match 40 = .ok (.invokevirtual 180, 3) := by decide +kernel
theorem dX7_match_43 : decode cX7_match 43 = .ok (.ireturn, 1) := by decide +kernel
theorem sp_X7_match {x y : Int32} {S : St} {D : Mem} (h : INV1 D S) : Rix 21 j_X7_match [.ref 0, .int x, .int y] D (fun u D' => CK D (m_match S x y) u D') := by
  refine E.start 0 (ls := [some (.ref 0), some (.int x), some (.int y)]) (by decide +kernel) (Nat.le_of_ble_eq_true rfl) rfl (Nat.le_refl _) (Nat.le_refl _) ?_
  have hcm := h.1.2.1.2.1
  refine X_iload_n (nx := 1) dX7_match_0 rfl rfl rfl ?_
  refine Y_Si1 (nx := 4) dX7_match_1 rfl ml_RX7_167 kj_X7_isPath ks_X7_isPath (sp_X7_isPath) (by first | decide | omega) (by exact Nat.le_of_ble_eq_true rfl) ?_
  refine X_if_ne (tgt := 13) (nx := 7) dX7_match_4 rfl rfl (fun h4 => ?_) (fun h4 => ?_)
  · skip
    have c4 := b2i_t.mp h4
    obtain ⟨p, hp, rfl⟩ := ex_nI (N := 341) (n := 341) rfl (by decide) (of_decide_eq_true c4)
    have k4 : (nI p).toNatClampNeg = p := nI_clamp (by omega)
    refine X_iload_n (nx := 14) dX7_match_13 rfl rfl rfl ?_
    refine Y_Si1 (nx := 17) dX7_match_14 rfl ml_RX7_115 kj_X7_isVerb ks_X7_isVerb (sp_X7_isVerb) (by first | decide | omega) (by exact Nat.le_of_ble_eq_true rfl) ?_
    refine X_if_ne (tgt := 27) (nx := 20) dX7_match_17 rfl rfl (fun h17 => ?_) (fun h17 => ?_)
    · skip
      have c17 := b2i_t.mp h17
      obtain ⟨v, hv, rfl⟩ := ex_nI (N := 4) (n := 4) rfl (by decide) (of_decide_eq_true c17)
      have k17 : (nI v).toNatClampNeg = v := nI_clamp (by omega)
      refine X_aload_n (nx := 28) dX7_match_27 rfl rfl rfl ?_
      refine M_getP (nx := 31) dX7_match_28 rfl fl_RX7_25 rfl (by first | assumption | rfl | decide | omega) (by first | assumption | rfl | decide | omega) (by first | assumption | rfl | decide | omega) ?_
      refine X_iload_n (nx := 32) dX7_match_31 rfl rfl rfl ?_
      refine X_iload_n (nx := 33) dX7_match_32 rfl rfl rfl ?_
      refine X_aload_n (nx := 34) dX7_match_33 rfl rfl rfl ?_
      refine M_getP (nx := 37) dX7_match_34 rfl fl_RX7_10 rfl (by first | assumption | rfl | decide | omega) (by first | assumption | rfl | decide | omega) (by first | assumption | rfl | decide | omega) ?_
      refine Y_Vi0 (nx := 40) dX7_match_37 rfl ml_RX7_125 kj_X0_thereBits kv_X0_thereBits (sp_X0_thereBits (Or.inl rfl) h.1.1) (by first | assumption | rfl | decide | omega) (by first | assumption | rfl | decide | omega) (by decide) rfl (by first | decide | omega) (by exact Nat.le_of_ble_eq_true rfl) ?_
      refine Z_Vi3 (nx := 43) dX7_match_40 rfl ml_RX7_180 kj_X6_bring kv_X6_bring (sp_X6_bring h rfl hp rfl hv rfl (wS_lt S)) (by first | assumption | rfl | decide | omega) (by first | assumption | rfl | decide | omega) (by decide) rfl (by first | decide | omega) (by exact Nat.le_of_ble_eq_true rfl) (fun u40 D40 g40 => ?_)
      exact Z_reti dX7_match_43 (Or.inl rfl) (by unfold m_match; rw [if_pos c4, if_pos c17, k4, k17]; exact ck_s g40.2.2.2.1 g40.1 g40.2.1.sc)
    · skip
      have n17 := nb h17
      refine X_aload_n (nx := 21) dX7_match_20 rfl rfl rfl ?_
      refine X_bipush (v := -2) (nx := 23) dX7_match_21 rfl rfl ?_
      refine Y_Vi1 (nx := 26) dX7_match_23 rfl ml_RX7_51 kj_X7_refuse kv_X7_refuse (sp_X7_refuse (k := 2) rfl (by omega) (by omega)) (by first | assumption | rfl | decide | omega) (by first | assumption | rfl | decide | omega) (by decide) rfl (by first | decide | omega) (by exact Nat.le_of_ble_eq_true rfl) ?_
      exact Z_reti dX7_match_26 (Or.inl rfl) (by unfold m_match; rw [if_pos c4, if_neg n17]; exact ck_no (k := 2) h Fr.rf (by omega) (by omega))
  · skip
    have n4 := nb h4
    refine X_aload_n (nx := 8) dX7_match_7 rfl rfl rfl ?_
    refine X_iconst (v := -1) (nx := 9) dX7_match_8 rfl rfl ?_
    refine Y_Vi1 (nx := 12) dX7_match_9 rfl ml_RX7_51 kj_X7_refuse kv_X7_refuse (sp_X7_refuse (k := 1) rfl (by omega) (by omega)) (by first | assumption | rfl | decide | omega) (by first | assumption | rfl | decide | omega) (by decide) rfl (by first | decide | omega) (by exact Nat.le_of_ble_eq_true rfl) ?_
    exact Z_reti dX7_match_12 (Or.inl rfl) (by unfold m_match; rw [if_neg n4]; exact ck_no (k := 1) h Fr.rf (by omega) (by omega))
theorem dX7_looked_0 : decode cX7_looked 0 = .ok (.iload_n 1, 1) := by decide +kernel
theorem dX7_looked_1 : decode cX7_looked 1 = .ok (.invokestatic 167, 3) := by decide +kernel
theorem dX7_looked_4 : decode cX7_looked 4 = .ok (.ifCond .ne 9, 3) := by decide +kernel
theorem dX7_looked_7 : decode cX7_looked 7 = .ok (.aload_n 0, 1) := by decide +kernel
theorem dX7_looked_8 : decode cX7_looked 8 = .ok (.iconst (-1), 1) := by decide +kernel
theorem dX7_looked_9 : decode cX7_looked 9 = .ok (.invokevirtual 51, 3) := by decide +kernel
theorem dX7_looked_12 : decode cX7_looked 12 = .ok (.ireturn, 1) := by decide +kernel
theorem dX7_looked_13 : decode cX7_looked 13 = .ok (.iload_n 2, 1) := by decide +kernel
theorem dX7_looked_14 : decode cX7_looked 14 = .ok (.invokestatic 115, 3) := by decide +kernel
theorem dX7_looked_17 : decode cX7_looked 17 = .ok (.ifCond .ne 10, 3) := by decide +kernel
theorem dX7_looked_20 : decode cX7_looked 20 = .ok (.aload_n 0, 1) := by decide +kernel
theorem dX7_looked_21 : decode cX7_looked 21 = .ok (.bipush (-2), 2) := by decide +kernel
theorem dX7_looked_23 : decode cX7_looked 23 = .ok (.invokevirtual 51, 3) := by decide +kernel
theorem dX7_looked_26 : decode cX7_looked 26 = .ok (.ireturn, 1) := by decide +kernel
theorem dX7_looked_27 : decode cX7_looked 27 = .ok (.aload_n 0, 1) := by decide +kernel
theorem dX7_looked_28 : decode cX7_looked 28 = .ok (.getfield 25, 3) := by decide +kernel
theorem dX7_looked_31 : decode cX7_looked 31 = .ok (.iload_n 1, 1) := by decide +kernel
theorem dX7_looked_32 : decode cX7_looked 32 = .ok (.iload_n 2, 1) := by decide +kernel
theorem dX7_looked_33 : decode cX7_looked 33 = .ok (.aload_n 0, 1) := by decide +kernel
theorem dX7_looked_34 : decode cX7_looked 34 = .ok (.getfield 10, 3) := by decide +kernel
theorem dX7_looked_37 : decode cX7_looked 37 = .ok (.invokevirtual 125, 3) := by decide +kernel
theorem dX7_looked_40 : decode cX7_looked 40 = .ok (.invokevirtual 180, 3) := by decide +kernel
theorem dX7_looked_43 : decode cX7_looked 43 = .ok (.pop, 1) := by decide +kernel
theorem dX7_looked_44 : decode cX7_looked 44 = .ok (.aload_n 0, 1) := by decide +kernel
theorem dX7_looked_45 : decode cX7_looked 45 = .ok (.getfield 25, 3) := by decide +kernel
theorem dX7_looked_48 : decode cX7_looked 48 = .ok (.getfield 194, 3) := by decide +kernel
theorem dX7_looked_51 : decode cX7_looked 51 = .ok (.ireturn, 1) := by decide +kernel
theorem sp_X7_looked {x y : Int32} {S : St} {D : Mem} (h : INV1 D S) : Rix 21 j_X7_looked [.ref 0, .int x, .int y] D (fun u D' => CK D (m_looked S x y) u D') := by
  refine E.start 0 (ls := [some (.ref 0), some (.int x), some (.int y)]) (by decide +kernel) (Nat.le_of_ble_eq_true rfl) rfl (Nat.le_refl _) (Nat.le_refl _) ?_
  have hcm := h.1.2.1.2.1
  refine X_iload_n (nx := 1) dX7_looked_0 rfl rfl rfl ?_
  refine Y_Si1 (nx := 4) dX7_looked_1 rfl ml_RX7_167 kj_X7_isPath ks_X7_isPath (sp_X7_isPath) (by first | decide | omega) (by exact Nat.le_of_ble_eq_true rfl) ?_
  refine X_if_ne (tgt := 13) (nx := 7) dX7_looked_4 rfl rfl (fun h4 => ?_) (fun h4 => ?_)
  · skip
    have c4 := b2i_t.mp h4
    obtain ⟨p, hp, rfl⟩ := ex_nI (N := 341) (n := 341) rfl (by decide) (of_decide_eq_true c4)
    have k4 : (nI p).toNatClampNeg = p := nI_clamp (by omega)
    refine X_iload_n (nx := 14) dX7_looked_13 rfl rfl rfl ?_
    refine Y_Si1 (nx := 17) dX7_looked_14 rfl ml_RX7_115 kj_X7_isVerb ks_X7_isVerb (sp_X7_isVerb) (by first | decide | omega) (by exact Nat.le_of_ble_eq_true rfl) ?_
    refine X_if_ne (tgt := 27) (nx := 20) dX7_looked_17 rfl rfl (fun h17 => ?_) (fun h17 => ?_)
    · skip
      have c17 := b2i_t.mp h17
      obtain ⟨v, hv, rfl⟩ := ex_nI (N := 4) (n := 4) rfl (by decide) (of_decide_eq_true c17)
      have k17 : (nI v).toNatClampNeg = v := nI_clamp (by omega)
      refine X_aload_n (nx := 28) dX7_looked_27 rfl rfl rfl ?_
      refine M_getP (nx := 31) dX7_looked_28 rfl fl_RX7_25 rfl (by first | assumption | rfl | decide | omega) (by first | assumption | rfl | decide | omega) (by first | assumption | rfl | decide | omega) ?_
      refine X_iload_n (nx := 32) dX7_looked_31 rfl rfl rfl ?_
      refine X_iload_n (nx := 33) dX7_looked_32 rfl rfl rfl ?_
      refine X_aload_n (nx := 34) dX7_looked_33 rfl rfl rfl ?_
      refine M_getP (nx := 37) dX7_looked_34 rfl fl_RX7_10 rfl (by first | assumption | rfl | decide | omega) (by first | assumption | rfl | decide | omega) (by first | assumption | rfl | decide | omega) ?_
      refine Y_Vi0 (nx := 40) dX7_looked_37 rfl ml_RX7_125 kj_X0_thereBits kv_X0_thereBits (sp_X0_thereBits (Or.inl rfl) h.1.1) (by first | assumption | rfl | decide | omega) (by first | assumption | rfl | decide | omega) (by decide) rfl (by first | decide | omega) (by exact Nat.le_of_ble_eq_true rfl) ?_
      refine Z_Vi3 (nx := 43) dX7_looked_40 rfl ml_RX7_180 kj_X6_bring kv_X6_bring (sp_X6_bring h rfl hp rfl hv rfl (wS_lt S)) (by first | assumption | rfl | decide | omega) (by first | assumption | rfl | decide | omega) (by decide) rfl (by first | decide | omega) (by exact Nat.le_of_ble_eq_true rfl) (fun u40 D40 g40 => ?_)
      refine X_pop (nx := 44) dX7_looked_43 rfl rfl ?_
      refine X_aload_n (nx := 45) dX7_looked_44 rfl rfl rfl ?_
      refine M_getP (nx := 48) dX7_looked_45 rfl fl_RX7_25 rfl (by first | assumption | rfl | decide | omega) (by first | assumption | rfl | decide | omega) (by first | assumption | rfl | decide | omega) ?_
      refine M_getI (nx := 51) dX7_looked_48 rfl fl_RX7_194 rfl (by first | assumption | rfl | decide | omega) (by first | assumption | rfl | decide | omega) ?_
      exact Z_reti dX7_looked_51 (Or.inl rfl) (by unfold m_looked; rw [if_pos c4, if_pos c17, k4, k17]; exact ck_s g40.2.2.2.2.1 g40.1 g40.2.1.sc)
    · skip
      have n17 := nb h17
      refine X_aload_n (nx := 21) dX7_looked_20 rfl rfl rfl ?_
      refine X_bipush (v := -2) (nx := 23) dX7_looked_21 rfl rfl ?_
      refine Y_Vi1 (nx := 26) dX7_looked_23 rfl ml_RX7_51 kj_X7_refuse kv_X7_refuse (sp_X7_refuse (k := 2) rfl (by omega) (by omega)) (by first | assumption | rfl | decide | omega) (by first | assumption | rfl | decide | omega) (by decide) rfl (by first | decide | omega) (by exact Nat.le_of_ble_eq_true rfl) ?_
      exact Z_reti dX7_looked_26 (Or.inl rfl) (by unfold m_looked; rw [if_pos c4, if_neg n17]; exact ck_no (k := 2) h Fr.rf (by omega) (by omega))
  · skip
    have n4 := nb h4
    refine X_aload_n (nx := 8) dX7_looked_7 rfl rfl rfl ?_
    refine X_iconst (v := -1) (nx := 9) dX7_looked_8 rfl rfl ?_
    refine Y_Vi1 (nx := 12) dX7_looked_9 rfl ml_RX7_51 kj_X7_refuse kv_X7_refuse (sp_X7_refuse (k := 1) rfl (by omega) (by omega)) (by first | assumption | rfl | decide | omega) (by first | assumption | rfl | decide | omega) (by decide) rfl (by first | decide | omega) (by exact Nat.le_of_ble_eq_true rfl) ?_
    exact Z_reti dX7_looked_12 (Or.inl rfl) (by unfold m_looked; rw [if_neg n4]; exact ck_no (k := 1) h Fr.rf (by omega) (by omega))
theorem dX7_matched_0 : decode cX7_matched 0 = .ok (.iload_n 1, 1) := by decide +kernel
theorem dX7_matched_1 : decode cX7_matched 1 = .ok (.invokestatic 115, 3) := by decide +kernel
theorem dX7_matched_4 : decode cX7_matched 4 = .ok (.ifCond .ne 10, 3) := by decide +kernel
theorem dX7_matched_7 : decode cX7_matched 7 = .ok (.aload_n 0, 1) := by decide +kernel
theorem dX7_matched_8 : decode cX7_matched 8 = .ok (.bipush (-2), 2) := by decide +kernel
theorem dX7_matched_10 : decode cX7_matched 10 = .ok (.invokevirtual 51, 3) := by decide +kernel
theorem dX7_matched_13 : decode cX7_matched 13 = .ok (.ireturn, 1) := by decide +kernel
theorem dX7_matched_14 : decode cX7_matched 14 = .ok (.aload_n 0, 1) := by decide +kernel
theorem dX7_matched_15 : decode cX7_matched 15 = .ok (.getfield 25, 3) := by decide +kernel
theorem dX7_matched_18 : decode cX7_matched 18 = .ok (.iload_n 1, 1) := by decide +kernel
theorem dX7_matched_19 : decode cX7_matched 19 = .ok (.aload_n 0, 1) := by decide +kernel
theorem dX7_matched_20 : decode cX7_matched 20 = .ok (.getfield 10, 3) := by decide +kernel
theorem dX7_matched_23 : decode cX7_matched 23 = .ok (.invokevirtual 125, 3) := by decide +kernel
theorem dX7_matched_26 : decode cX7_matched 26 = .ok (.invokevirtual 206, 3) := by decide +kernel
theorem dX7_matched_29 : decode cX7_matched 29 = .ok (.aload_n 0, 1) := by decide +kernel
theorem dX7_matched_30 : decode cX7_matched 30 = .ok (.getfield 25, 3) := by decide +kernel
theorem dX7_matched_33 : decode cX7_matched 33 = .ok (.getfield 210, 3) := by decide +kernel
theorem dX7_matched_36 : decode cX7_matched 36 = .ok (.ireturn, 1) := by decide +kernel
theorem sp_X7_matched {y : Int32} {S : St} {D : Mem} (h : INV1 D S) : Rix 22 j_X7_matched [.ref 0, .int y] D (fun u D' => CK D (m_matched S y) u D') := by
  refine E.start 0 (ls := [some (.ref 0), some (.int y)]) (by decide +kernel) (Nat.le_of_ble_eq_true rfl) rfl (Nat.le_refl _) (Nat.le_refl _) ?_
  have hcm := h.1.2.1.2.1
  refine X_iload_n (nx := 1) dX7_matched_0 rfl rfl rfl ?_
  refine Y_Si1 (nx := 4) dX7_matched_1 rfl ml_RX7_115 kj_X7_isVerb ks_X7_isVerb (sp_X7_isVerb) (by first | decide | omega) (by exact Nat.le_of_ble_eq_true rfl) ?_
  refine X_if_ne (tgt := 14) (nx := 7) dX7_matched_4 rfl rfl (fun h4 => ?_) (fun h4 => ?_)
  · skip
    have c4 := b2i_t.mp h4
    obtain ⟨v, hv, rfl⟩ := ex_nI (N := 4) (n := 4) rfl (by decide) (of_decide_eq_true c4)
    have k4 : (nI v).toNatClampNeg = v := nI_clamp (by omega)
    refine X_aload_n (nx := 15) dX7_matched_14 rfl rfl rfl ?_
    refine M_getP (nx := 18) dX7_matched_15 rfl fl_RX7_25 rfl (by first | assumption | rfl | decide | omega) (by first | assumption | rfl | decide | omega) (by first | assumption | rfl | decide | omega) ?_
    refine X_iload_n (nx := 19) dX7_matched_18 rfl rfl rfl ?_
    refine X_aload_n (nx := 20) dX7_matched_19 rfl rfl rfl ?_
    refine M_getP (nx := 23) dX7_matched_20 rfl fl_RX7_10 rfl (by first | assumption | rfl | decide | omega) (by first | assumption | rfl | decide | omega) (by first | assumption | rfl | decide | omega) ?_
    refine Y_Vi0 (nx := 26) dX7_matched_23 rfl ml_RX7_125 kj_X0_thereBits kv_X0_thereBits (sp_X0_thereBits (Or.inl rfl) h.1.1) (by first | assumption | rfl | decide | omega) (by first | assumption | rfl | decide | omega) (by decide) rfl (by first | decide | omega) (by exact Nat.le_of_ble_eq_true rfl) ?_
    refine Z_Vv2 (nx := 29) dX7_matched_26 rfl ml_RX7_206 kj_X6_bringAll kv_X6_bringAll (sp_X6_bringAll h rfl hv rfl (wS_lt S)) (by first | assumption | rfl | decide | omega) (by first | assumption | rfl | decide | omega) (by decide) rfl (by first | decide | omega) (by exact Nat.le_of_ble_eq_true rfl) (fun D26 g26 => ?_)
    refine X_aload_n (nx := 30) dX7_matched_29 rfl rfl rfl ?_
    refine M_getP (nx := 33) dX7_matched_30 rfl fl_RX7_25 rfl (by first | assumption | rfl | decide | omega) (by first | assumption | rfl | decide | omega) (by first | assumption | rfl | decide | omega) ?_
    refine M_getI (nx := 36) dX7_matched_33 rfl fl_RX7_210 rfl (by first | assumption | rfl | decide | omega) (by first | assumption | rfl | decide | omega) ?_
    exact Z_reti dX7_matched_36 (Or.inl rfl) (by unfold m_matched; rw [if_pos c4, k4]; exact ck_s g26.2.2.1 g26.1 g26.2.1.sc)
  · skip
    have n4 := nb h4
    refine X_aload_n (nx := 8) dX7_matched_7 rfl rfl rfl ?_
    refine X_bipush (v := -2) (nx := 10) dX7_matched_8 rfl rfl ?_
    refine Y_Vi1 (nx := 13) dX7_matched_10 rfl ml_RX7_51 kj_X7_refuse kv_X7_refuse (sp_X7_refuse (k := 2) rfl (by omega) (by omega)) (by first | assumption | rfl | decide | omega) (by first | assumption | rfl | decide | omega) (by decide) rfl (by first | decide | omega) (by exact Nat.le_of_ble_eq_true rfl) ?_
    exact Z_reti dX7_matched_13 (Or.inl rfl) (by unfold m_matched; rw [if_neg n4]; exact ck_no (k := 2) h Fr.rf (by omega) (by omega))
theorem getD_mem {α : Type} {l : List α} {k : Nat} {d : α} (h : k < l.length) : l.getD k d ∈ l := by
  rw [List.getD_eq_getElem?_getD, List.getElem?_eq_getElem h]
  exact List.getElem_mem h
theorem m1_ltn {n : Nat} (h : n < 2147483648) : (-1 : Int32) < nI n := Int32.lt_of_lt_of_le (by decide) (nI_pos' h)
theorem own_adP {nl : List Nd} {R : Nat} {es : List Nat} (h : ∀ x ∈ nl, x.1 < 3) (hR : R < 3) : ∀ k, ∀ x ∈ adP nl R es k, x.1 < 3 := by
  intro k
  induction k with
  | zero => exact h
  | succ k ih =>
    intro x hx
    unfold adP adP1 at hx
    split at hx
    · exact ih x hx
    · rcases List.mem_append.mp hx with hx | hx
      · exact ih x hx
      · rw [List.mem_singleton.mp hx]; exact hR
theorem own_nlG {B : Bk} (hV : VB B) : ∀ i, ∀ x ∈ nlG B i, x.1 < 3 := by
  intro i
  induction i with
  | zero => intro x hx; unfold nlG roots at hx; simp at hx; rcases hx with rfl | rfl | rfl <;> decide
  | succ i ih =>
    unfold nlG
    split
    · next h =>
      have hc : i < cm_ B := by unfold thN at h; simp only [Bool.and_eq_true, decide_eq_true_eq] at h; exact h.1
      exact own_adP ih (hV.2.2 i hc).1 _
    · exact ih
theorem nlG_own {B : Bk} (hV : VB B) (i j : Nat) (hj : j < (nlG B i).length) : (ng (nlG B i) j).1 < 3 := own_nlG hV i _ (getD_mem hj)
theorem ge_0 {y : Int32} (h : ¬ y < -1) (h2 : ¬ y = -1) : 0 ≤ y := by
  have e1 : ¬ y.toInt < (-1 : Int32).toInt := fun q => h (Int32.lt_iff_toInt_lt.mpr q)
  rw [Int32.le_iff_toInt_le]
  have e2 : y.toInt ≠ (-1 : Int32).toInt := fun e => h2 (Int32.toInt_inj.mp e)
  have a : (-1 : Int32).toInt = -1 := by decide
  have b : (0 : Int32).toInt = 0 := by decide
  omega
theorem lt_m1 {y : Int32} (h : y < -1) : ¬ y = -1 ∧ ¬ 0 ≤ y := by
  rw [Int32.lt_iff_toInt_lt] at h
  have a : (-1 : Int32).toInt = -1 := by decide
  have b : (0 : Int32).toInt = 0 := by decide
  refine ⟨fun e => ?_, fun e => ?_⟩
  · rw [e] at h; omega
  · rw [Int32.le_iff_toInt_le] at e; omega
theorem getD_in2 {l : List Nat} {k : Nat} (h : k < l.length) : l.getD k 0 ∈ l := getD_in h
theorem out6 (y : Int32) : y = 0 ∨ y = 1 ∨ y = 2 ∨ y = 3 ∨ y = 4 ∨ y = 5 ∨ (¬ y = 0 ∧ ¬ y = 1 ∧ ¬ y = 2 ∧ ¬ y = 3 ∧ ¬ y = 4 ∧ ¬ y = 5 ∧ (y.toInt < 0 ∨ 5 < y.toInt)) := by
  by_cases h0 : y = 0; exact Or.inl h0
  by_cases h1 : y = 1; exact Or.inr (Or.inl h1)
  by_cases h2 : y = 2; exact Or.inr (Or.inr (Or.inl h2))
  by_cases h3 : y = 3; exact Or.inr (Or.inr (Or.inr (Or.inl h3)))
  by_cases h4 : y = 4; exact Or.inr (Or.inr (Or.inr (Or.inr (Or.inl h4))))
  by_cases h5 : y = 5; exact Or.inr (Or.inr (Or.inr (Or.inr (Or.inr (Or.inl h5)))))
  refine Or.inr (Or.inr (Or.inr (Or.inr (Or.inr (Or.inr ⟨h0, h1, h2, h3, h4, h5, ?_⟩)))))
  rw [← Int32.toInt_inj] at h0 h1 h2 h3 h4 h5
  have a0 : (0 : Int32).toInt = 0 := by decide
  have a1 : (1 : Int32).toInt = 1 := by decide
  have a2 : (2 : Int32).toInt = 2 := by decide
  have a3 : (3 : Int32).toInt = 3 := by decide
  have a4 : (4 : Int32).toInt = 4 := by decide
  have a5 : (5 : Int32).toInt = 5 := by decide
  omega
theorem out7 (y : Int32) : y = 0 ∨ y = 1 ∨ y = 2 ∨ y = 3 ∨ y = 4 ∨ y = 5 ∨ y = 6 ∨ (¬ y = 0 ∧ ¬ y = 1 ∧ ¬ y = 2 ∧ ¬ y = 3 ∧ ¬ y = 4 ∧ ¬ y = 5 ∧ ¬ y = 6 ∧ (y.toInt < 0 ∨ 6 < y.toInt)) := by
  rcases out6 y with h | h | h | h | h | h | ⟨h0, h1, h2, h3, h4, h5, h⟩
  · exact Or.inl h
  · exact Or.inr (Or.inl h)
  · exact Or.inr (Or.inr (Or.inl h))
  · exact Or.inr (Or.inr (Or.inr (Or.inl h)))
  · exact Or.inr (Or.inr (Or.inr (Or.inr (Or.inl h))))
  · exact Or.inr (Or.inr (Or.inr (Or.inr (Or.inr (Or.inl h)))))
  by_cases h6 : y = 6; exact Or.inr (Or.inr (Or.inr (Or.inr (Or.inr (Or.inr (Or.inl h6))))))
  refine Or.inr (Or.inr (Or.inr (Or.inr (Or.inr (Or.inr (Or.inr ⟨h0, h1, h2, h3, h4, h5, h6, ?_⟩))))))
  rw [← Int32.toInt_inj] at h6
  have a6 : (6 : Int32).toInt = 6 := by decide
  omega
theorem cnt_k {y : Int32} (h1 : 11 ≤ y) (h2 : y ≤ 16) : ∃ k, 1 ≤ k ∧ k < 7 ∧ y - 10 = nI k ∧ y.toNatClampNeg - 10 = k := by
  obtain ⟨j, hj, rfl⟩ := ex_nI (x := y) (N := nI 17) (n := 17) rfl (by decide) ⟨Int32.le_trans (by decide) h1, Int32.lt_of_le_of_lt h2 (by decide)⟩
  have h3 : 11 ≤ j := (nI_leI (by omega) (by omega)).mp h1
  exact ⟨j - 10, by omega, by omega, (show nI j - nI 10 = _ from sub_nI (by omega)), by rw [nI_clamp (by omega)]⟩
theorem PIL.add {D : Mem} {p : Nat} {l : List Nat} {k : Nat} (h : PIL D p l) (hl : l.length < (lay (p + 1)).2) : PIL (up2 (up2 D (p + 1) l.length (nI k)) p 1 (nI (l.length + 1))) p (l ++ [k]) := by
  obtain ⟨h1, h2, h3⟩ := h
  refine ⟨by simp; omega, by rw [up2_same]; simp, fun i hi => ?_⟩
  simp at hi
  rw [up2_other (by omega)]
  by_cases e : i = l.length
  · subst e
    rw [up2_same, List.getD_eq_getElem?_getD, List.getElem?_append_right (Nat.le_refl _)]; simp
  · rw [up2_other (by omega), h3 i (by omega), List.getD_eq_getElem?_getD, List.getD_eq_getElem?_getD, List.getElem?_append_left (by omega)]
theorem dX7_nodes_0 : decode cX7_nodes 0 = .ok (.iload_n 1, 1) := by decide +kernel
theorem dX7_nodes_1 : decode cX7_nodes 1 = .ok (.invokestatic 85, 3) := by decide +kernel
theorem dX7_nodes_4 : decode cX7_nodes 4 = .ok (.ifCond .ne 9, 3) := by decide +kernel
theorem dX7_nodes_7 : decode cX7_nodes 7 = .ok (.aload_n 0, 1) := by decide +kernel
theorem dX7_nodes_8 : decode cX7_nodes 8 = .ok (.iconst (-1), 1) := by decide +kernel
theorem dX7_nodes_9 : decode cX7_nodes 9 = .ok (.invokevirtual 51, 3) := by decide +kernel
theorem dX7_nodes_12 : decode cX7_nodes 12 = .ok (.ireturn, 1) := by decide +kernel
theorem dX7_nodes_13 : decode cX7_nodes 13 = .ok (.aload_n 0, 1) := by decide +kernel
theorem dX7_nodes_14 : decode cX7_nodes 14 = .ok (.getfield 25, 3) := by decide +kernel
theorem dX7_nodes_17 : decode cX7_nodes 17 = .ok (.getfield 76, 3) := by decide +kernel
theorem dX7_nodes_20 : decode cX7_nodes 20 = .ok (.iload_n 1, 1) := by decide +kernel
theorem dX7_nodes_21 : decode cX7_nodes 21 = .ok (.invokevirtual 164, 3) := by decide +kernel
theorem dX7_nodes_24 : decode cX7_nodes 24 = .ok (.ireturn, 1) := by decide +kernel
theorem sp_X7_nodes {x : Int32} {S : St} {D : Mem} (h : INV1 D S) : Rix 3 j_X7_nodes [.ref 0, .int x] D (fun u D' => CK D (m_nodes S x) u D') := by
  refine E.start 0 (ls := [some (.ref 0), some (.int x)]) (by decide +kernel) (Nat.le_of_ble_eq_true rfl) rfl (Nat.le_refl _) (Nat.le_refl _) ?_
  have hcm := h.1.2.1.2.1
  refine X_iload_n (nx := 1) dX7_nodes_0 rfl rfl rfl ?_
  refine Y_Si1 (nx := 4) dX7_nodes_1 rfl ml_RX7_85 kj_X7_isRouter ks_X7_isRouter (sp_X7_isRouter) (by first | decide | omega) (by exact Nat.le_of_ble_eq_true rfl) ?_
  refine X_if_ne (tgt := 13) (nx := 7) dX7_nodes_4 rfl rfl (fun h4 => ?_) (fun h4 => ?_)
  · skip
    have c4 := b2i_t.mp h4
    obtain ⟨R, hR, rfl⟩ := ex_nI (N := 3) (n := 3) rfl (by decide) (of_decide_eq_true c4)
    have k4 : (nI R).toNatClampNeg = R := nI_clamp (by omega)
    refine X_aload_n (nx := 14) dX7_nodes_13 rfl rfl rfl ?_
    refine M_getP (nx := 17) dX7_nodes_14 rfl fl_RX7_25 rfl (by first | assumption | rfl | decide | omega) (by first | assumption | rfl | decide | omega) (by first | assumption | rfl | decide | omega) ?_
    refine M_getP (nx := 20) dX7_nodes_17 rfl fl_RX7_76 rfl (by first | assumption | rfl | decide | omega) (by first | assumption | rfl | decide | omega) (by first | assumption | rfl | decide | omega) ?_
    refine X_iload_n (nx := 21) dX7_nodes_20 rfl rfl rfl ?_
    refine Y_Vi1 (nx := 24) dX7_nodes_21 rfl ml_RX7_164 kj_X5_nodesOf kv_X5_nodesOf (sp_X5_nodesOf h.2.2.1 rfl hR (nlG_own h.1.2.1 10)) (by first | assumption | rfl | decide | omega) (by first | assumption | rfl | decide | omega) (by decide) rfl (by first | decide | omega) (by exact Nat.le_of_ble_eq_true rfl) ?_
    exact Z_reti dX7_nodes_24 (Or.inl rfl) (by unfold m_nodes; rw [if_pos c4, k4]; exact ck_s rfl h Fr.rf)
  · skip
    have n4 := nb h4
    refine X_aload_n (nx := 8) dX7_nodes_7 rfl rfl rfl ?_
    refine X_iconst (v := -1) (nx := 9) dX7_nodes_8 rfl rfl ?_
    refine Y_Vi1 (nx := 12) dX7_nodes_9 rfl ml_RX7_51 kj_X7_refuse kv_X7_refuse (sp_X7_refuse (k := 1) rfl (by omega) (by omega)) (by first | assumption | rfl | decide | omega) (by first | assumption | rfl | decide | omega) (by decide) rfl (by first | decide | omega) (by exact Nat.le_of_ble_eq_true rfl) ?_
    exact Z_reti dX7_nodes_12 (Or.inl rfl) (by unfold m_nodes; rw [if_neg n4]; exact ck_no (k := 1) h Fr.rf (by omega) (by omega))
theorem dX7_letterOf_0 : decode cX7_letterOf 0 = .ok (.iload_n 1, 1) := by decide +kernel
theorem dX7_letterOf_1 : decode cX7_letterOf 1 = .ok (.invokestatic 167, 3) := by decide +kernel
theorem dX7_letterOf_4 : decode cX7_letterOf 4 = .ok (.ifCond .ne 9, 3) := by decide +kernel
theorem dX7_letterOf_7 : decode cX7_letterOf 7 = .ok (.aload_n 0, 1) := by decide +kernel
theorem dX7_letterOf_8 : decode cX7_letterOf 8 = .ok (.iconst (-1), 1) := by decide +kernel
theorem dX7_letterOf_9 : decode cX7_letterOf 9 = .ok (.invokevirtual 51, 3) := by decide +kernel
theorem dX7_letterOf_12 : decode cX7_letterOf 12 = .ok (.ireturn, 1) := by decide +kernel
theorem dX7_letterOf_13 : decode cX7_letterOf 13 = .ok (.iload_n 1, 1) := by decide +kernel
theorem dX7_letterOf_14 : decode cX7_letterOf 14 = .ok (.aload_n 0, 1) := by decide +kernel
theorem dX7_letterOf_15 : decode cX7_letterOf 15 = .ok (.getfield 25, 3) := by decide +kernel
theorem dX7_letterOf_18 : decode cX7_letterOf 18 = .ok (.getfield 170, 3) := by decide +kernel
theorem dX7_letterOf_21 : decode cX7_letterOf 21 = .ok (.invokestatic 173, 3) := by decide +kernel
theorem dX7_letterOf_24 : decode cX7_letterOf 24 = .ok (.iload_n 2, 1) := by decide +kernel
theorem dX7_letterOf_25 : decode cX7_letterOf 25 = .ok (.iconst (-1), 1) := by decide +kernel
theorem dX7_letterOf_26 : decode cX7_letterOf 26 = .ok (.if_icmp .lt 17, 3) := by decide +kernel
theorem dX7_letterOf_29 : decode cX7_letterOf 29 = .ok (.iload_n 2, 1) := by decide +kernel
theorem dX7_letterOf_30 : decode cX7_letterOf 30 = .ok (.aload_n 0, 1) := by decide +kernel
theorem dX7_letterOf_31 : decode cX7_letterOf 31 = .ok (.getfield 25, 3) := by decide +kernel
theorem dX7_letterOf_34 : decode cX7_letterOf 34 = .ok (.getfield 170, 3) := by decide +kernel
theorem dX7_letterOf_37 : decode cX7_letterOf 37 = .ok (.getfield 62, 3) := by decide +kernel
theorem dX7_letterOf_40 : decode cX7_letterOf 40 = .ok (.if_icmp .lt 9, 3) := by decide +kernel
theorem dX7_letterOf_43 : decode cX7_letterOf 43 = .ok (.aload_n 0, 1) := by decide +kernel
theorem dX7_letterOf_44 : decode cX7_letterOf 44 = .ok (.iconst (-1), 1) := by decide +kernel
theorem dX7_letterOf_45 : decode cX7_letterOf 45 = .ok (.invokevirtual 51, 3) := by decide +kernel
theorem dX7_letterOf_48 : decode cX7_letterOf 48 = .ok (.ireturn, 1) := by decide +kernel
theorem dX7_letterOf_49 : decode cX7_letterOf 49 = .ok (.iload_n 2, 1) := by decide +kernel
theorem dX7_letterOf_50 : decode cX7_letterOf 50 = .ok (.iconst (-1), 1) := by decide +kernel
theorem dX7_letterOf_51 : decode cX7_letterOf 51 = .ok (.if_icmp .ne 16, 3) := by decide +kernel
theorem dX7_letterOf_54 : decode cX7_letterOf 54 = .ok (.aload_n 0, 1) := by decide +kernel
theorem dX7_letterOf_55 : decode cX7_letterOf 55 = .ok (.getfield 25, 3) := by decide +kernel
theorem dX7_letterOf_58 : decode cX7_letterOf 58 = .ok (.getfield 170, 3) := by decide +kernel
theorem dX7_letterOf_61 : decode cX7_letterOf 61 = .ok (.getfield 62, 3) := by decide +kernel
theorem dX7_letterOf_64 : decode cX7_letterOf 64 = .ok (.goto 14, 3) := by decide +kernel
theorem dX7_letterOf_67 : decode cX7_letterOf 67 = .ok (.aload_n 0, 1) := by decide +kernel
theorem dX7_letterOf_68 : decode cX7_letterOf 68 = .ok (.getfield 25, 3) := by decide +kernel
theorem dX7_letterOf_71 : decode cX7_letterOf 71 = .ok (.getfield 170, 3) := by decide +kernel
theorem dX7_letterOf_74 : decode cX7_letterOf 74 = .ok (.iload_n 2, 1) := by decide +kernel
theorem dX7_letterOf_75 : decode cX7_letterOf 75 = .ok (.invokevirtual 178, 3) := by decide +kernel
theorem dX7_letterOf_78 : decode cX7_letterOf 78 = .ok (.ireturn, 1) := by decide +kernel
theorem sp_X7_letterOf {x y : Int32} {S : St} {D : Mem} (h : INV1 D S) : Rix 4 j_X7_letterOf [.ref 0, .int x, .int y] D (fun u D' => CK D (m_letterOf S x y) u D') := by
  refine E.start 0 (ls := [some (.ref 0), some (.int x), some (.int y)]) (by decide +kernel) (Nat.le_of_ble_eq_true rfl) rfl (Nat.le_refl _) (Nat.le_refl _) ?_
  have hcm := h.1.2.1.2.1
  refine X_iload_n (nx := 1) dX7_letterOf_0 rfl rfl rfl ?_
  refine Y_Si1 (nx := 4) dX7_letterOf_1 rfl ml_RX7_167 kj_X7_isPath ks_X7_isPath (sp_X7_isPath) (by first | decide | omega) (by exact Nat.le_of_ble_eq_true rfl) ?_
  refine X_if_ne (tgt := 13) (nx := 7) dX7_letterOf_4 rfl rfl (fun h4 => ?_) (fun h4 => ?_)
  · skip
    have c4 := b2i_t.mp h4
    obtain ⟨p, hp, rfl⟩ := ex_nI (N := 341) (n := 341) rfl (by decide) (of_decide_eq_true c4)
    have k4 : (nI p).toNatClampNeg = p := nI_clamp (by omega)
    refine X_iload_n (nx := 14) dX7_letterOf_13 rfl rfl rfl ?_
    refine X_aload_n (nx := 15) dX7_letterOf_14 rfl rfl rfl ?_
    refine M_getP (nx := 18) dX7_letterOf_15 rfl fl_RX7_25 rfl (by first | assumption | rfl | decide | omega) (by first | assumption | rfl | decide | omega) (by first | assumption | rfl | decide | omega) ?_
    refine M_getP (nx := 21) dX7_letterOf_18 rfl fl_RX7_170 rfl (by first | assumption | rfl | decide | omega) (by first | assumption | rfl | decide | omega) (by first | assumption | rfl | decide | omega) ?_
    refine Z_Sv2 (nx := 24) dX7_letterOf_21 rfl ml_RX7_173 kj_X1_read ks_X1_read (sp_X1_read (Or.inl rfl) rfl hp) (by first | decide | omega) (by exact Nat.le_of_ble_eq_true rfl) (fun D21 g21 => ?_)
    have hi1 : INV1 D21 S := h.fr (g21.2.mono (fun b hb => by unfold inS; omega)) (by rw [g21.2 95 (by omega)])
    have hf1 : Fr inC D D21 := g21.2.mono (fun b hb => by unfold inC; omega)
    refine X_iload_n (nx := 25) dX7_letterOf_24 rfl rfl rfl ?_
    refine X_iconst (v := -1) (nx := 26) dX7_letterOf_25 rfl rfl ?_
    refine X_icmp_lt (tgt := 43) (nx := 29) dX7_letterOf_26 rfl rfl (fun h26 => ?_) (fun h26 => ?_)
    · skip
      refine X_aload_n (nx := 44) dX7_letterOf_43 rfl rfl rfl ?_
      refine X_iconst (v := -1) (nx := 45) dX7_letterOf_44 rfl rfl ?_
      refine Y_Vi1 (nx := 48) dX7_letterOf_45 rfl ml_RX7_51 kj_X7_refuse kv_X7_refuse (sp_X7_refuse (k := 1) rfl (by omega) (by omega)) (by first | assumption | rfl | decide | omega) (by first | assumption | rfl | decide | omega) (by decide) rfl (by first | decide | omega) (by exact Nat.le_of_ble_eq_true rfl) ?_
      exact Z_reti dX7_letterOf_48 (Or.inl rfl) (by unfold m_letterOf; rw [if_pos c4, k4]; first | (rw [if_neg (lt_m1 h26).1, if_neg (fun q => (lt_m1 h26).2 q.1)]; exact ck_no (k := 1) hi1 hf1 (by omega) (by omega)) | (rw [if_neg (fun q => h40 (by rw [q]; have := pathL_len p; have := sz_le p; exact m1_ltn (by omega))), if_neg (fun q => h40 q.2)]; exact ck_no (k := 1) hi1 hf1 (by omega) (by omega)))
    · skip
      refine X_iload_n (nx := 30) dX7_letterOf_29 rfl rfl rfl ?_
      refine X_aload_n (nx := 31) dX7_letterOf_30 rfl rfl rfl ?_
      refine M_getP (nx := 34) dX7_letterOf_31 rfl fl_RX7_25 rfl (by first | assumption | rfl | decide | omega) (by first | assumption | rfl | decide | omega) (by first | assumption | rfl | decide | omega) ?_
      refine M_getP (nx := 37) dX7_letterOf_34 rfl fl_RX7_170 rfl (by first | assumption | rfl | decide | omega) (by first | assumption | rfl | decide | omega) (by first | assumption | rfl | decide | omega) ?_
      refine M_getI (nx := 40) dX7_letterOf_37 rfl fl_RX7_62 rfl (by first | assumption | rfl | decide | omega) (by first | assumption | rfl | decide | omega) ?_
      refine X_top (g21.1.2.1) ?_
      refine X_icmp_lt (tgt := 49) (nx := 43) dX7_letterOf_40 rfl rfl (fun h40 => ?_) (fun h40 => ?_)
      · skip
        refine X_iload_n (nx := 50) dX7_letterOf_49 rfl rfl rfl ?_
        refine X_iconst (v := -1) (nx := 51) dX7_letterOf_50 rfl rfl ?_
        refine X_icmp_ne (tgt := 67) (nx := 54) dX7_letterOf_51 rfl rfl (fun h51 => ?_) (fun h51 => ?_)
        · skip
          have hge := ge_0 h26 h51
          obtain ⟨k, hk, rfl⟩ := ex_nI (x := y) (n := (pathL p).length) rfl (by have := pathL_len p; have := sz_le p; omega) ⟨hge, h40⟩
          have k51 : (nI k).toNatClampNeg = k := nI_clamp (by have := pathL_len p; have := sz_le p; omega)
          refine X_aload_n (nx := 68) dX7_letterOf_67 rfl rfl rfl ?_
          refine M_getP (nx := 71) dX7_letterOf_68 rfl fl_RX7_25 rfl (by first | assumption | rfl | decide | omega) (by first | assumption | rfl | decide | omega) (by first | assumption | rfl | decide | omega) ?_
          refine M_getP (nx := 74) dX7_letterOf_71 rfl fl_RX7_170 rfl (by first | assumption | rfl | decide | omega) (by first | assumption | rfl | decide | omega) (by first | assumption | rfl | decide | omega) ?_
          refine X_iload_n (nx := 75) dX7_letterOf_74 rfl rfl rfl ?_
          refine Y_Vi1 (nx := 78) dX7_letterOf_75 rfl ml_RX7_178 kj_X2_at kv_X2_at (sp_X2_at (isPa.pl (Or.inl rfl)) (g21.1.pil (Or.inl rfl)) rfl hk) (by first | assumption | rfl | decide | omega) (by first | assumption | rfl | decide | omega) (by decide) rfl (by first | decide | omega) (by exact Nat.le_of_ble_eq_true rfl) ?_
          exact Z_reti dX7_letterOf_78 (Or.inl rfl) (by unfold m_letterOf; rw [if_pos c4, k4]; first | (rw [if_pos (Classical.not_not.mp h51)]; exact ck_s rfl hi1 hf1) | (rw [if_pos h51]; exact ck_s rfl hi1 hf1) | (rw [if_neg h51, if_pos ⟨hge, h40⟩, k51]; exact ck_s rfl hi1 hf1))
        · skip
          refine X_aload_n (nx := 55) dX7_letterOf_54 rfl rfl rfl ?_
          refine M_getP (nx := 58) dX7_letterOf_55 rfl fl_RX7_25 rfl (by first | assumption | rfl | decide | omega) (by first | assumption | rfl | decide | omega) (by first | assumption | rfl | decide | omega) ?_
          refine M_getP (nx := 61) dX7_letterOf_58 rfl fl_RX7_170 rfl (by first | assumption | rfl | decide | omega) (by first | assumption | rfl | decide | omega) (by first | assumption | rfl | decide | omega) ?_
          refine M_getI (nx := 64) dX7_letterOf_61 rfl fl_RX7_62 rfl (by first | assumption | rfl | decide | omega) (by first | assumption | rfl | decide | omega) ?_
          refine X_top (g21.1.2.1) ?_
          refine X_goto (tgt := 78) dX7_letterOf_64 rfl ?_
          exact Z_reti dX7_letterOf_78 (Or.inl rfl) (by unfold m_letterOf; rw [if_pos c4, k4]; first | (rw [if_pos (Classical.not_not.mp h51)]; exact ck_s rfl hi1 hf1) | (rw [if_pos h51]; exact ck_s rfl hi1 hf1) | (rw [if_neg h51, if_pos ⟨hge, h40⟩, k51]; exact ck_s rfl hi1 hf1))
      · skip
        refine X_aload_n (nx := 44) dX7_letterOf_43 rfl rfl rfl ?_
        refine X_iconst (v := -1) (nx := 45) dX7_letterOf_44 rfl rfl ?_
        refine Y_Vi1 (nx := 48) dX7_letterOf_45 rfl ml_RX7_51 kj_X7_refuse kv_X7_refuse (sp_X7_refuse (k := 1) rfl (by omega) (by omega)) (by first | assumption | rfl | decide | omega) (by first | assumption | rfl | decide | omega) (by decide) rfl (by first | decide | omega) (by exact Nat.le_of_ble_eq_true rfl) ?_
        exact Z_reti dX7_letterOf_48 (Or.inl rfl) (by unfold m_letterOf; rw [if_pos c4, k4]; first | (rw [if_neg (lt_m1 h26).1, if_neg (fun q => (lt_m1 h26).2 q.1)]; exact ck_no (k := 1) hi1 hf1 (by omega) (by omega)) | (rw [if_neg (fun q => h40 (by rw [q]; have := pathL_len p; have := sz_le p; exact m1_ltn (by omega))), if_neg (fun q => h40 q.2)]; exact ck_no (k := 1) hi1 hf1 (by omega) (by omega)))
  · skip
    have n4 := nb h4
    refine X_aload_n (nx := 8) dX7_letterOf_7 rfl rfl rfl ?_
    refine X_iconst (v := -1) (nx := 9) dX7_letterOf_8 rfl rfl ?_
    refine Y_Vi1 (nx := 12) dX7_letterOf_9 rfl ml_RX7_51 kj_X7_refuse kv_X7_refuse (sp_X7_refuse (k := 1) rfl (by omega) (by omega)) (by first | assumption | rfl | decide | omega) (by first | assumption | rfl | decide | omega) (by decide) rfl (by first | decide | omega) (by exact Nat.le_of_ble_eq_true rfl) ?_
    exact Z_reti dX7_letterOf_12 (Or.inl rfl) (by unfold m_letterOf; rw [if_neg n4]; exact ck_no (k := 1) h Fr.rf (by omega) (by omega))
theorem dX7_segment_0 : decode cX7_segment 0 = .ok (.aload_n 0, 1) := by decide +kernel
theorem dX7_segment_1 : decode cX7_segment 1 = .ok (.getfield 10, 3) := by decide +kernel
theorem dX7_segment_4 : decode cX7_segment 4 = .ok (.iload_n 1, 1) := by decide +kernel
theorem dX7_segment_5 : decode cX7_segment 5 = .ok (.invokevirtual 103, 3) := by decide +kernel
theorem dX7_segment_8 : decode cX7_segment 8 = .ok (.ifCond .eq 22, 3) := by decide +kernel
theorem dX7_segment_11 : decode cX7_segment 11 = .ok (.iload_n 2, 1) := by decide +kernel
theorem dX7_segment_12 : decode cX7_segment 12 = .ok (.ifCond .lt 18, 3) := by decide +kernel
theorem dX7_segment_15 : decode cX7_segment 15 = .ok (.iload_n 2, 1) := by decide +kernel
theorem dX7_segment_16 : decode cX7_segment 16 = .ok (.aload_n 0, 1) := by decide +kernel
theorem dX7_segment_17 : decode cX7_segment 17 = .ok (.getfield 10, 3) := by decide +kernel
theorem dX7_segment_20 : decode cX7_segment 20 = .ok (.iload_n 1, 1) := by decide +kernel
theorem dX7_segment_21 : decode cX7_segment 21 = .ok (.invokevirtual 106, 3) := by decide +kernel
theorem dX7_segment_24 : decode cX7_segment 24 = .ok (.getfield 154, 3) := by decide +kernel
theorem dX7_segment_27 : decode cX7_segment 27 = .ok (.if_icmp .lt 9, 3) := by decide +kernel
theorem dX7_segment_30 : decode cX7_segment 30 = .ok (.aload_n 0, 1) := by decide +kernel
theorem dX7_segment_31 : decode cX7_segment 31 = .ok (.iconst (-1), 1) := by decide +kernel
theorem dX7_segment_32 : decode cX7_segment 32 = .ok (.invokevirtual 51, 3) := by decide +kernel
theorem dX7_segment_35 : decode cX7_segment 35 = .ok (.ireturn, 1) := by decide +kernel
theorem dX7_segment_36 : decode cX7_segment 36 = .ok (.aload_n 0, 1) := by decide +kernel
theorem dX7_segment_37 : decode cX7_segment 37 = .ok (.getfield 10, 3) := by decide +kernel
theorem dX7_segment_40 : decode cX7_segment 40 = .ok (.iload_n 1, 1) := by decide +kernel
theorem dX7_segment_41 : decode cX7_segment 41 = .ok (.invokevirtual 106, 3) := by decide +kernel
theorem dX7_segment_44 : decode cX7_segment 44 = .ok (.iload_n 2, 1) := by decide +kernel
theorem dX7_segment_45 : decode cX7_segment 45 = .ok (.invokevirtual 161, 3) := by decide +kernel
theorem dX7_segment_48 : decode cX7_segment 48 = .ok (.ireturn, 1) := by decide +kernel
theorem sp_X7_segment {x y : Int32} {S : St} {D : Mem} (h : INV1 D S) : Rix 3 j_X7_segment [.ref 0, .int x, .int y] D (fun u D' => CK D (m_segment S x y) u D') := by
  refine E.start 0 (ls := [some (.ref 0), some (.int x), some (.int y)]) (by decide +kernel) (Nat.le_of_ble_eq_true rfl) rfl (Nat.le_refl _) (Nat.le_refl _) ?_
  have hcm := h.1.2.1.2.1
  refine X_aload_n (nx := 1) dX7_segment_0 rfl rfl rfl ?_
  refine M_getP (nx := 4) dX7_segment_1 rfl fl_RX7_10 rfl (by first | assumption | rfl | decide | omega) (by first | assumption | rfl | decide | omega) (by first | assumption | rfl | decide | omega) ?_
  refine X_iload_n (nx := 5) dX7_segment_4 rfl rfl rfl ?_
  refine Y_Vi1 (nx := 8) dX7_segment_5 rfl ml_RX7_103 kj_X0_isThere kv_X0_isThere (sp_X0_isThere (Or.inl rfl) h.1.1) (by first | assumption | rfl | decide | omega) (by first | assumption | rfl | decide | omega) (by decide) rfl (by first | decide | omega) (by exact Nat.le_of_ble_eq_true rfl) ?_
  refine X_if_eq (tgt := 30) (nx := 11) dX7_segment_8 rfl rfl (fun h8 => ?_) (fun h8 => ?_)
  · skip
    have n8 := nb h8
    refine X_aload_n (nx := 31) dX7_segment_30 rfl rfl rfl ?_
    refine X_iconst (v := -1) (nx := 32) dX7_segment_31 rfl rfl ?_
    refine Y_Vi1 (nx := 35) dX7_segment_32 rfl ml_RX7_51 kj_X7_refuse kv_X7_refuse (sp_X7_refuse (k := 1) rfl (by omega) (by omega)) (by first | assumption | rfl | decide | omega) (by first | assumption | rfl | decide | omega) (by decide) rfl (by first | decide | omega) (by exact Nat.le_of_ble_eq_true rfl) ?_
    exact Z_reti dX7_segment_35 (Or.inl rfl) (by unfold m_segment; first | (rw [if_neg n8]; exact ck_no (k := 1) h Fr.rf (by omega) (by omega)) | (rw [if_pos c8, if_neg (fun q => absurd h12 (Int32.not_lt.mpr q.1))]; exact ck_no (k := 1) h Fr.rf (by omega) (by omega)) | (rw [if_pos c8, k8, if_neg (fun q => h27 q.2)]; exact ck_no (k := 1) h Fr.rf (by omega) (by omega)))
  · skip
    have c8 := b2i_t.mp h8
    obtain ⟨r, hr, rfl, tr⟩ := isTh_t hcm c8
    have k8 : (nI r).toNatClampNeg = r := nI_clamp (by omega)
    obtain ⟨r1, r2, r3, r4, r5⟩ := h.1.1.2.2.2 r hr
    have hisR := ((isB.facts (Or.inl rfl : isB 1)).2.2.2.2.2.2 r (by omega)).2
    have ha : rt 1 r < 138 := hisR.1
    have hc : (lay (rt 1 r)).1 = 3 := hisR.2
    refine X_iload_n (nx := 12) dX7_segment_11 rfl rfl rfl ?_
    refine X_if_lt (tgt := 30) (nx := 15) dX7_segment_12 rfl rfl (fun h12 => ?_) (fun h12 => ?_)
    · skip
      refine X_aload_n (nx := 31) dX7_segment_30 rfl rfl rfl ?_
      refine X_iconst (v := -1) (nx := 32) dX7_segment_31 rfl rfl ?_
      refine Y_Vi1 (nx := 35) dX7_segment_32 rfl ml_RX7_51 kj_X7_refuse kv_X7_refuse (sp_X7_refuse (k := 1) rfl (by omega) (by omega)) (by first | assumption | rfl | decide | omega) (by first | assumption | rfl | decide | omega) (by decide) rfl (by first | decide | omega) (by exact Nat.le_of_ble_eq_true rfl) ?_
      exact Z_reti dX7_segment_35 (Or.inl rfl) (by unfold m_segment; first | (rw [if_neg n8]; exact ck_no (k := 1) h Fr.rf (by omega) (by omega)) | (rw [if_pos c8, if_neg (fun q => absurd h12 (Int32.not_lt.mpr q.1))]; exact ck_no (k := 1) h Fr.rf (by omega) (by omega)) | (rw [if_pos c8, k8, if_neg (fun q => h27 q.2)]; exact ck_no (k := 1) h Fr.rf (by omega) (by omega)))
    · skip
      refine X_iload_n (nx := 16) dX7_segment_15 rfl rfl rfl ?_
      refine X_aload_n (nx := 17) dX7_segment_16 rfl rfl rfl ?_
      refine M_getP (nx := 20) dX7_segment_17 rfl fl_RX7_10 rfl (by first | assumption | rfl | decide | omega) (by first | assumption | rfl | decide | omega) (by first | assumption | rfl | decide | omega) ?_
      refine X_iload_n (nx := 21) dX7_segment_20 rfl rfl rfl ?_
      refine Y_Vr1 (nx := 24) dX7_segment_21 rfl ml_RX7_106 kj_X0_at kv_X0_at (sp_X0_at (Or.inl rfl) (i := r) rfl (by omega)) (by first | assumption | rfl | decide | omega) (by first | assumption | rfl | decide | omega) (by decide) rfl (by first | decide | omega) (by exact Nat.le_of_ble_eq_true rfl) ?_
      refine M_getI (nx := 27) dX7_segment_24 rfl fl_RX7_154 rfl (by first | assumption | rfl | decide | omega) (by first | assumption | rfl | decide | omega) ?_
      refine X_top (r5.2.1) ?_
      refine X_icmp_lt (tgt := 36) (nx := 30) dX7_segment_27 rfl rfl (fun h27 => ?_) (fun h27 => ?_)
      · skip
        obtain ⟨k, hk, rfl⟩ := ex_nI (x := y) (n := (sg_ (bk S) r).length) rfl (by have := r5.1; omega) ⟨Int32.not_lt.mp h12, h27⟩
        have k27 : (nI k).toNatClampNeg = k := nI_clamp (by have := r5.1; omega)
        refine X_aload_n (nx := 37) dX7_segment_36 rfl rfl rfl ?_
        refine M_getP (nx := 40) dX7_segment_37 rfl fl_RX7_10 rfl (by first | assumption | rfl | decide | omega) (by first | assumption | rfl | decide | omega) (by first | assumption | rfl | decide | omega) ?_
        refine X_iload_n (nx := 41) dX7_segment_40 rfl rfl rfl ?_
        refine Y_Vr1 (nx := 44) dX7_segment_41 rfl ml_RX7_106 kj_X0_at kv_X0_at (sp_X0_at (Or.inl rfl) (i := r) rfl (by omega)) (by first | assumption | rfl | decide | omega) (by first | assumption | rfl | decide | omega) (by decide) rfl (by first | decide | omega) (by exact Nat.le_of_ble_eq_true rfl) ?_
        refine X_iload_n (nx := 45) dX7_segment_44 rfl rfl rfl ?_
        refine Y_Vi1 (nx := 48) dX7_segment_45 rfl ml_RX7_161 kj_X4_segmentAt kv_X4_segmentAt (sp_X4_segmentAt hisR r5 rfl hk) (by first | assumption | rfl | decide | omega) (by first | assumption | rfl | decide | omega) (by decide) rfl (by first | decide | omega) (by exact Nat.le_of_ble_eq_true rfl) ?_
        exact Z_reti dX7_segment_48 (Or.inl rfl) (by unfold m_segment; rw [if_pos c8, k8, if_pos ⟨Int32.not_lt.mp h12, h27⟩, k27]; exact ck_s rfl h Fr.rf)
      · skip
        refine X_aload_n (nx := 31) dX7_segment_30 rfl rfl rfl ?_
        refine X_iconst (v := -1) (nx := 32) dX7_segment_31 rfl rfl ?_
        refine Y_Vi1 (nx := 35) dX7_segment_32 rfl ml_RX7_51 kj_X7_refuse kv_X7_refuse (sp_X7_refuse (k := 1) rfl (by omega) (by omega)) (by first | assumption | rfl | decide | omega) (by first | assumption | rfl | decide | omega) (by decide) rfl (by first | decide | omega) (by exact Nat.le_of_ble_eq_true rfl) ?_
        exact Z_reti dX7_segment_35 (Or.inl rfl) (by unfold m_segment; first | (rw [if_neg n8]; exact ck_no (k := 1) h Fr.rf (by omega) (by omega)) | (rw [if_pos c8, if_neg (fun q => absurd h12 (Int32.not_lt.mpr q.1))]; exact ck_no (k := 1) h Fr.rf (by omega) (by omega)) | (rw [if_pos c8, k8, if_neg (fun q => h27 q.2)]; exact ck_no (k := 1) h Fr.rf (by omega) (by omega)))
theorem dX7_route_0 : decode cX7_route 0 = .ok (.aload_n 0, 1) := by decide +kernel
theorem dX7_route_1 : decode cX7_route 1 = .ok (.getfield 10, 3) := by decide +kernel
theorem dX7_route_4 : decode cX7_route 4 = .ok (.iload_n 1, 1) := by decide +kernel
theorem dX7_route_5 : decode cX7_route 5 = .ok (.invokevirtual 103, 3) := by decide +kernel
theorem dX7_route_8 : decode cX7_route 8 = .ok (.ifCond .ne 9, 3) := by decide +kernel
theorem dX7_route_11 : decode cX7_route 11 = .ok (.aload_n 0, 1) := by decide +kernel
theorem dX7_route_12 : decode cX7_route 12 = .ok (.iconst (-1), 1) := by decide +kernel
theorem dX7_route_13 : decode cX7_route 13 = .ok (.invokevirtual 51, 3) := by decide +kernel
theorem dX7_route_16 : decode cX7_route 16 = .ok (.ireturn, 1) := by decide +kernel
theorem dX7_route_17 : decode cX7_route 17 = .ok (.aload_n 0, 1) := by decide +kernel
theorem dX7_route_18 : decode cX7_route 18 = .ok (.getfield 10, 3) := by decide +kernel
theorem dX7_route_21 : decode cX7_route 21 = .ok (.iload_n 1, 1) := by decide +kernel
theorem dX7_route_22 : decode cX7_route 22 = .ok (.invokevirtual 106, 3) := by decide +kernel
theorem dX7_route_25 : decode cX7_route 25 = .ok (.astore_n 3, 1) := by decide +kernel
theorem dX7_route_26 : decode cX7_route 26 = .ok (.iload_n 2, 1) := by decide +kernel
theorem dX7_route_27 : decode cX7_route 27 = .ok (.tableswitch 75 0 5 #[37, 42, 47, 52, 57, 62], 37) := by decide +kernel
theorem dX7_route_64 : decode cX7_route 64 = .ok (.aload_n 3, 1) := by decide +kernel
theorem dX7_route_65 : decode cX7_route 65 = .ok (.getfield 145, 3) := by decide +kernel
theorem dX7_route_68 : decode cX7_route 68 = .ok (.ireturn, 1) := by decide +kernel
theorem dX7_route_69 : decode cX7_route 69 = .ok (.aload_n 3, 1) := by decide +kernel
theorem dX7_route_70 : decode cX7_route 70 = .ok (.getfield 118, 3) := by decide +kernel
theorem dX7_route_73 : decode cX7_route 73 = .ok (.ireturn, 1) := by decide +kernel
theorem dX7_route_74 : decode cX7_route 74 = .ok (.aload_n 3, 1) := by decide +kernel
theorem dX7_route_75 : decode cX7_route 75 = .ok (.getfield 134, 3) := by decide +kernel
theorem dX7_route_78 : decode cX7_route 78 = .ok (.ireturn, 1) := by decide +kernel
theorem dX7_route_79 : decode cX7_route 79 = .ok (.aload_n 3, 1) := by decide +kernel
theorem dX7_route_80 : decode cX7_route 80 = .ok (.getfield 154, 3) := by decide +kernel
theorem dX7_route_83 : decode cX7_route 83 = .ok (.ireturn, 1) := by decide +kernel
theorem dX7_route_84 : decode cX7_route 84 = .ok (.aload_n 3, 1) := by decide +kernel
theorem dX7_route_85 : decode cX7_route 85 = .ok (.invokevirtual 155, 3) := by decide +kernel
theorem dX7_route_88 : decode cX7_route 88 = .ok (.ireturn, 1) := by decide +kernel
theorem dX7_route_89 : decode cX7_route 89 = .ok (.aload_n 3, 1) := by decide +kernel
theorem dX7_route_90 : decode cX7_route 90 = .ok (.invokevirtual 158, 3) := by decide +kernel
theorem dX7_route_93 : decode cX7_route 93 = .ok (.ifCond .eq 7, 3) := by decide +kernel
theorem dX7_route_96 : decode cX7_route 96 = .ok (.iconst 1, 1) := by decide +kernel
theorem dX7_route_97 : decode cX7_route 97 = .ok (.goto 4, 3) := by decide +kernel
theorem dX7_route_100 : decode cX7_route 100 = .ok (.iconst 0, 1) := by decide +kernel
theorem dX7_route_101 : decode cX7_route 101 = .ok (.ireturn, 1) := by decide +kernel
theorem dX7_route_102 : decode cX7_route 102 = .ok (.aload_n 0, 1) := by decide +kernel
theorem dX7_route_103 : decode cX7_route 103 = .ok (.bipush (-2), 2) := by decide +kernel
theorem dX7_route_105 : decode cX7_route 105 = .ok (.invokevirtual 51, 3) := by decide +kernel
theorem dX7_route_108 : decode cX7_route 108 = .ok (.ireturn, 1) := by decide +kernel
theorem sp_X7_route {x y : Int32} {S : St} {D : Mem} (h : INV1 D S) : Rix 4 j_X7_route [.ref 0, .int x, .int y] D (fun u D' => CK D (m_route S x y) u D') := by
  refine E.start 1 (ls := [some (.ref 0), some (.int x), some (.int y), none]) (by decide +kernel) (Nat.le_of_ble_eq_true rfl) rfl (Nat.le_refl _) (Nat.le_refl _) ?_
  have hcm := h.1.2.1.2.1
  refine X_aload_n (nx := 1) dX7_route_0 rfl rfl rfl ?_
  refine M_getP (nx := 4) dX7_route_1 rfl fl_RX7_10 rfl (by first | assumption | rfl | decide | omega) (by first | assumption | rfl | decide | omega) (by first | assumption | rfl | decide | omega) ?_
  refine X_iload_n (nx := 5) dX7_route_4 rfl rfl rfl ?_
  refine Y_Vi1 (nx := 8) dX7_route_5 rfl ml_RX7_103 kj_X0_isThere kv_X0_isThere (sp_X0_isThere (Or.inl rfl) h.1.1) (by first | assumption | rfl | decide | omega) (by first | assumption | rfl | decide | omega) (by decide) rfl (by first | decide | omega) (by exact Nat.le_of_ble_eq_true rfl) ?_
  refine X_if_ne (tgt := 17) (nx := 11) dX7_route_8 rfl rfl (fun h8 => ?_) (fun h8 => ?_)
  · skip
    have c8 := b2i_t.mp h8
    obtain ⟨r, hr, rfl, tr⟩ := isTh_t hcm c8
    have k8 : (nI r).toNatClampNeg = r := nI_clamp (by omega)
    obtain ⟨r1, r2, r3, r4, r5⟩ := h.1.1.2.2.2 r hr
    have hisR := ((isB.facts (Or.inl rfl : isB 1)).2.2.2.2.2.2 r (by omega)).2
    have ha : rt 1 r < 138 := hisR.1
    have hc : (lay (rt 1 r)).1 = 3 := hisR.2
    refine X_aload_n (nx := 18) dX7_route_17 rfl rfl rfl ?_
    refine M_getP (nx := 21) dX7_route_18 rfl fl_RX7_10 rfl (by first | assumption | rfl | decide | omega) (by first | assumption | rfl | decide | omega) (by first | assumption | rfl | decide | omega) ?_
    refine X_iload_n (nx := 22) dX7_route_21 rfl rfl rfl ?_
    refine Y_Vr1 (nx := 25) dX7_route_22 rfl ml_RX7_106 kj_X0_at kv_X0_at (sp_X0_at (Or.inl rfl) (i := r) rfl (by omega)) (by first | assumption | rfl | decide | omega) (by first | assumption | rfl | decide | omega) (by decide) rfl (by first | decide | omega) (by exact Nat.le_of_ble_eq_true rfl) ?_
    refine X_astore_n (i := 3) (nx := 26) dX7_route_25 rfl rfl (by decide) rfl (st_s (st_s (st_s (st_0)))) ?_
    refine X_iload_n (nx := 27) dX7_route_26 rfl rfl rfl ?_
    obtain rfl | rfl | rfl | rfl | rfl | rfl | ⟨y0, y1, y2, y3, y4, y5, yo⟩ := out6 y
    · skip
      refine X_tableIn (tgt := 64) (off := 37) dX7_route_27 (by decide) (by decide) (by decide) rfl ?_
      refine X_aload_n (nx := 65) dX7_route_64 rfl rfl rfl ?_
      refine M_getI (nx := 68) dX7_route_65 rfl fl_RX7_145 rfl (by first | assumption | rfl | decide | omega) (by first | assumption | rfl | decide | omega) ?_
      exact Z_reti dX7_route_68 (Or.inl rfl) (by unfold m_route; rw [if_pos c8, k8, if_pos rfl]; exact ck_s r2 h Fr.rf)
    · skip
      refine X_tableIn (tgt := 69) (off := 42) dX7_route_27 (by decide) (by decide) (by decide) rfl ?_
      refine X_aload_n (nx := 70) dX7_route_69 rfl rfl rfl ?_
      refine M_getI (nx := 73) dX7_route_70 rfl fl_RX7_118 rfl (by first | assumption | rfl | decide | omega) (by first | assumption | rfl | decide | omega) ?_
      exact Z_reti dX7_route_73 (Or.inl rfl) (by unfold m_route; rw [if_pos c8, k8, if_neg (by decide), if_pos rfl]; exact ck_s r3 h Fr.rf)
    · skip
      refine X_tableIn (tgt := 74) (off := 47) dX7_route_27 (by decide) (by decide) (by decide) rfl ?_
      refine X_aload_n (nx := 75) dX7_route_74 rfl rfl rfl ?_
      refine M_getI (nx := 78) dX7_route_75 rfl fl_RX7_134 rfl (by first | assumption | rfl | decide | omega) (by first | assumption | rfl | decide | omega) ?_
      exact Z_reti dX7_route_78 (Or.inl rfl) (by unfold m_route; rw [if_pos c8, k8, if_neg (by decide), if_neg (by decide), if_pos rfl]; exact ck_s r4 h Fr.rf)
    · skip
      refine X_tableIn (tgt := 79) (off := 52) dX7_route_27 (by decide) (by decide) (by decide) rfl ?_
      refine X_aload_n (nx := 80) dX7_route_79 rfl rfl rfl ?_
      refine M_getI (nx := 83) dX7_route_80 rfl fl_RX7_154 rfl (by first | assumption | rfl | decide | omega) (by first | assumption | rfl | decide | omega) ?_
      exact Z_reti dX7_route_83 (Or.inl rfl) (by unfold m_route; rw [if_pos c8, k8, if_neg (by decide), if_neg (by decide), if_neg (by decide), if_pos rfl]; exact ck_s r5.2.1 h Fr.rf)
    · skip
      refine X_tableIn (tgt := 84) (off := 57) dX7_route_27 (by decide) (by decide) (by decide) rfl ?_
      refine X_aload_n (nx := 85) dX7_route_84 rfl rfl rfl ?_
      refine Y_Vi0 (nx := 88) dX7_route_85 rfl ml_RX7_155 kj_X4_parameterBits kv_X4_parameterBits (sp_X4_parameterBits hisR r5) (by first | assumption | rfl | decide | omega) (by first | assumption | rfl | decide | omega) (by decide) rfl (by first | decide | omega) (by exact Nat.le_of_ble_eq_true rfl) ?_
      exact Z_reti dX7_route_88 (Or.inl rfl) (by unfold m_route; rw [if_pos c8, k8, if_neg (by decide), if_neg (by decide), if_neg (by decide), if_neg (by decide), if_pos rfl]; exact ck_s rfl h Fr.rf)
    · skip
      refine X_tableIn (tgt := 89) (off := 62) dX7_route_27 (by decide) (by decide) (by decide) rfl ?_
      refine X_aload_n (nx := 90) dX7_route_89 rfl rfl rfl ?_
      refine Y_Vi0 (nx := 93) dX7_route_90 rfl ml_RX7_158 kj_X4_hasRest kv_X4_hasRest (sp_X4_hasRest hisR r5) (by first | assumption | rfl | decide | omega) (by first | assumption | rfl | decide | omega) (by decide) rfl (by first | decide | omega) (by exact Nat.le_of_ble_eq_true rfl) ?_
      refine X_if_eq (tgt := 100) (nx := 96) dX7_route_93 rfl rfl (fun h93 => ?_) (fun h93 => ?_)
      · skip
        refine X_iconst (v := 0) (nx := 101) dX7_route_100 rfl rfl ?_
        exact Z_reti dX7_route_101 (Or.inl rfl) (by unfold m_route; rw [if_pos c8, k8, if_neg (by decide), if_neg (by decide), if_neg (by decide), if_neg (by decide), if_neg (by decide), if_pos rfl]; exact ck_s (by unfold rsB; first | (rw [b2i_f.mp h93]; rfl) | (rw [b2i_t.mp h93]; rfl)) h Fr.rf)
      · skip
        refine X_iconst (v := 1) (nx := 97) dX7_route_96 rfl rfl ?_
        refine X_goto (tgt := 101) dX7_route_97 rfl ?_
        exact Z_reti dX7_route_101 (Or.inl rfl) (by unfold m_route; rw [if_pos c8, k8, if_neg (by decide), if_neg (by decide), if_neg (by decide), if_neg (by decide), if_neg (by decide), if_pos rfl]; exact ck_s (by unfold rsB; first | (rw [b2i_f.mp h93]; rfl) | (rw [b2i_t.mp h93]; rfl)) h Fr.rf)
    · skip
      refine X_tableOut (tgt := 102) dX7_route_27 (yo) rfl ?_
      refine X_aload_n (nx := 103) dX7_route_102 rfl rfl rfl ?_
      refine X_bipush (v := -2) (nx := 105) dX7_route_103 rfl rfl ?_
      refine Y_Vi1 (nx := 108) dX7_route_105 rfl ml_RX7_51 kj_X7_refuse kv_X7_refuse (sp_X7_refuse (k := 2) rfl (by omega) (by omega)) (by first | assumption | rfl | decide | omega) (by first | assumption | rfl | decide | omega) (by decide) rfl (by first | decide | omega) (by exact Nat.le_of_ble_eq_true rfl) ?_
      exact Z_reti dX7_route_108 (Or.inl rfl) (by unfold m_route; rw [if_pos c8, if_neg y0, if_neg y1, if_neg y2, if_neg y3, if_neg y4, if_neg y5]; exact ck_no (k := 2) h Fr.rf (by omega) (by omega))
  · skip
    have n8 := nb h8
    refine X_aload_n (nx := 12) dX7_route_11 rfl rfl rfl ?_
    refine X_iconst (v := -1) (nx := 13) dX7_route_12 rfl rfl ?_
    refine Y_Vi1 (nx := 16) dX7_route_13 rfl ml_RX7_51 kj_X7_refuse kv_X7_refuse (sp_X7_refuse (k := 1) rfl (by omega) (by omega)) (by first | assumption | rfl | decide | omega) (by first | assumption | rfl | decide | omega) (by decide) rfl (by first | decide | omega) (by exact Nat.le_of_ble_eq_true rfl) ?_
    exact Z_reti dX7_route_16 (Or.inl rfl) (by unfold m_route; rw [if_neg n8]; exact ck_no (k := 1) h Fr.rf (by omega) (by omega))
theorem dX7_count_0 : decode cX7_count 0 = .ok (.iload_n 1, 1) := by decide +kernel
theorem dX7_count_1 : decode cX7_count 1 = .ok (.tableswitch 102 0 6 #[43, 51, 59, 67, 75, 86, 94], 43) := by decide +kernel
theorem dX7_count_44 : decode cX7_count 44 = .ok (.aload_n 0, 1) := by decide +kernel
theorem dX7_count_45 : decode cX7_count 45 = .ok (.getfield 10, 3) := by decide +kernel
theorem dX7_count_48 : decode cX7_count 48 = .ok (.getfield 151, 3) := by decide +kernel
theorem dX7_count_51 : decode cX7_count 51 = .ok (.ireturn, 1) := by decide +kernel
theorem dX7_count_52 : decode cX7_count 52 = .ok (.aload_n 0, 1) := by decide +kernel
theorem dX7_count_53 : decode cX7_count 53 = .ok (.getfield 10, 3) := by decide +kernel
theorem dX7_count_56 : decode cX7_count 56 = .ok (.invokevirtual 125, 3) := by decide +kernel
theorem dX7_count_59 : decode cX7_count 59 = .ok (.ireturn, 1) := by decide +kernel
theorem dX7_count_60 : decode cX7_count 60 = .ok (.aload_n 0, 1) := by decide +kernel
theorem dX7_count_61 : decode cX7_count 61 = .ok (.getfield 10, 3) := by decide +kernel
theorem dX7_count_64 : decode cX7_count 64 = .ok (.invokevirtual 203, 3) := by decide +kernel
theorem dX7_count_67 : decode cX7_count 67 = .ok (.ireturn, 1) := by decide +kernel
theorem dX7_count_68 : decode cX7_count 68 = .ok (.aload_n 0, 1) := by decide +kernel
theorem dX7_count_69 : decode cX7_count 69 = .ok (.getfield 10, 3) := by decide +kernel
theorem dX7_count_72 : decode cX7_count 72 = .ok (.invokevirtual 262, 3) := by decide +kernel
theorem dX7_count_75 : decode cX7_count 75 = .ok (.ireturn, 1) := by decide +kernel
theorem dX7_count_76 : decode cX7_count 76 = .ok (.aload_n 0, 1) := by decide +kernel
theorem dX7_count_77 : decode cX7_count 77 = .ok (.getfield 25, 3) := by decide +kernel
theorem dX7_count_80 : decode cX7_count 80 = .ok (.getfield 76, 3) := by decide +kernel
theorem dX7_count_83 : decode cX7_count 83 = .ok (.getfield 265, 3) := by decide +kernel
theorem dX7_count_86 : decode cX7_count 86 = .ok (.ireturn, 1) := by decide +kernel
theorem dX7_count_87 : decode cX7_count 87 = .ok (.aload_n 0, 1) := by decide +kernel
theorem dX7_count_88 : decode cX7_count 88 = .ok (.getfield 38, 3) := by decide +kernel
theorem dX7_count_91 : decode cX7_count 91 = .ok (.getfield 62, 3) := by decide +kernel
theorem dX7_count_94 : decode cX7_count 94 = .ok (.ireturn, 1) := by decide +kernel
theorem dX7_count_95 : decode cX7_count 95 = .ok (.aload_n 0, 1) := by decide +kernel
theorem dX7_count_96 : decode cX7_count 96 = .ok (.getfield 34, 3) := by decide +kernel
theorem dX7_count_99 : decode cX7_count 99 = .ok (.getfield 62, 3) := by decide +kernel
theorem dX7_count_102 : decode cX7_count 102 = .ok (.ireturn, 1) := by decide +kernel
theorem dX7_count_103 : decode cX7_count 103 = .ok (.iload_n 1, 1) := by decide +kernel
theorem dX7_count_104 : decode cX7_count 104 = .ok (.bipush 11, 2) := by decide +kernel
theorem dX7_count_106 : decode cX7_count 106 = .ok (.if_icmp .lt 23, 3) := by decide +kernel
theorem dX7_count_109 : decode cX7_count 109 = .ok (.iload_n 1, 1) := by decide +kernel
theorem dX7_count_110 : decode cX7_count 110 = .ok (.bipush 16, 2) := by decide +kernel
theorem dX7_count_112 : decode cX7_count 112 = .ok (.if_icmp .gt 17, 3) := by decide +kernel
theorem dX7_count_115 : decode cX7_count 115 = .ok (.aload_n 0, 1) := by decide +kernel
theorem dX7_count_116 : decode cX7_count 116 = .ok (.getfield 48, 3) := by decide +kernel
theorem dX7_count_119 : decode cX7_count 119 = .ok (.iload_n 1, 1) := by decide +kernel
theorem dX7_count_120 : decode cX7_count 120 = .ok (.bipush 10, 2) := by decide +kernel
theorem dX7_count_122 : decode cX7_count 122 = .ok (.isub, 1) := by decide +kernel
theorem dX7_count_123 : decode cX7_count 123 = .ok (.invokestatic 92, 3) := by decide +kernel
theorem dX7_count_126 : decode cX7_count 126 = .ok (.goto 5, 3) := by decide +kernel
theorem dX7_count_129 : decode cX7_count 129 = .ok (.bipush (-9), 2) := by decide +kernel
theorem dX7_count_131 : decode cX7_count 131 = .ok (.ireturn, 1) := by decide +kernel
theorem sp_X7_count {y : Int32} {S : St} {D : Mem} (h : INV1 D S) : Rix 4 j_X7_count [.ref 0, .int y] D (fun u D' => CK D (m_count S y) u D') := by
  refine E.start 0 (ls := [some (.ref 0), some (.int y)]) (by decide +kernel) (Nat.le_of_ble_eq_true rfl) rfl (Nat.le_refl _) (Nat.le_refl _) ?_
  have hcm := h.1.2.1.2.1
  refine X_iload_n (nx := 1) dX7_count_0 rfl rfl rfl ?_
  obtain rfl | rfl | rfl | rfl | rfl | rfl | rfl | ⟨y0, y1, y2, y3, y4, y5, y6, yo⟩ := out7 y
  · skip
    refine X_tableIn (tgt := 44) (off := 43) dX7_count_1 (by decide) (by decide) (by decide) rfl ?_
    refine X_aload_n (nx := 45) dX7_count_44 rfl rfl rfl ?_
    refine M_getP (nx := 48) dX7_count_45 rfl fl_RX7_10 rfl (by first | assumption | rfl | decide | omega) (by first | assumption | rfl | decide | omega) (by first | assumption | rfl | decide | omega) ?_
    refine M_getI (nx := 51) dX7_count_48 rfl fl_RX7_151 rfl (by first | assumption | rfl | decide | omega) (by first | assumption | rfl | decide | omega) ?_
    exact Z_reti dX7_count_51 (Or.inl rfl) (ck_s h.1.1.2.1 h Fr.rf)
  · skip
    refine X_tableIn (tgt := 52) (off := 51) dX7_count_1 (by decide) (by decide) (by decide) rfl ?_
    refine X_aload_n (nx := 53) dX7_count_52 rfl rfl rfl ?_
    refine M_getP (nx := 56) dX7_count_53 rfl fl_RX7_10 rfl (by first | assumption | rfl | decide | omega) (by first | assumption | rfl | decide | omega) (by first | assumption | rfl | decide | omega) ?_
    refine Y_Vi0 (nx := 59) dX7_count_56 rfl ml_RX7_125 kj_X0_thereBits kv_X0_thereBits (sp_X0_thereBits (Or.inl rfl) h.1.1) (by first | assumption | rfl | decide | omega) (by first | assumption | rfl | decide | omega) (by decide) rfl (by first | decide | omega) (by exact Nat.le_of_ble_eq_true rfl) ?_
    exact Z_reti dX7_count_59 (Or.inl rfl) (ck_s rfl h Fr.rf)
  · skip
    refine X_tableIn (tgt := 60) (off := 59) dX7_count_1 (by decide) (by decide) (by decide) rfl ?_
    refine X_aload_n (nx := 61) dX7_count_60 rfl rfl rfl ?_
    refine M_getP (nx := 64) dX7_count_61 rfl fl_RX7_10 rfl (by first | assumption | rfl | decide | omega) (by first | assumption | rfl | decide | omega) (by first | assumption | rfl | decide | omega) ?_
    refine Y_Vi0 (nx := 67) dX7_count_64 rfl ml_RX7_203 kj_X0_mountBits kv_X0_mountBits (sp_X0_mountBits (Or.inl rfl) h.1.1) (by first | assumption | rfl | decide | omega) (by first | assumption | rfl | decide | omega) (by decide) rfl (by first | decide | omega) (by exact Nat.le_of_ble_eq_true rfl) ?_
    exact Z_reti dX7_count_67 (Or.inl rfl) (ck_s rfl h Fr.rf)
  · skip
    refine X_tableIn (tgt := 68) (off := 67) dX7_count_1 (by decide) (by decide) (by decide) rfl ?_
    refine X_aload_n (nx := 69) dX7_count_68 rfl rfl rfl ?_
    refine M_getP (nx := 72) dX7_count_69 rfl fl_RX7_10 rfl (by first | assumption | rfl | decide | omega) (by first | assumption | rfl | decide | omega) (by first | assumption | rfl | decide | omega) ?_
    refine Y_Vi0 (nx := 75) dX7_count_72 rfl ml_RX7_262 kj_X0_segmentsThere kv_X0_segmentsThere (sp_X0_segmentsThere (Or.inl rfl) h.1.1) (by first | assumption | rfl | decide | omega) (by first | assumption | rfl | decide | omega) (by decide) rfl (by first | decide | omega) (by exact Nat.le_of_ble_eq_true rfl) ?_
    exact Z_reti dX7_count_75 (Or.inl rfl) (ck_s rfl h Fr.rf)
  · skip
    refine X_tableIn (tgt := 76) (off := 75) dX7_count_1 (by decide) (by decide) (by decide) rfl ?_
    refine X_aload_n (nx := 77) dX7_count_76 rfl rfl rfl ?_
    refine M_getP (nx := 80) dX7_count_77 rfl fl_RX7_25 rfl (by first | assumption | rfl | decide | omega) (by first | assumption | rfl | decide | omega) (by first | assumption | rfl | decide | omega) ?_
    refine M_getP (nx := 83) dX7_count_80 rfl fl_RX7_76 rfl (by first | assumption | rfl | decide | omega) (by first | assumption | rfl | decide | omega) (by first | assumption | rfl | decide | omega) ?_
    refine M_getI (nx := 86) dX7_count_83 rfl fl_RX7_265 rfl (by first | assumption | rfl | decide | omega) (by first | assumption | rfl | decide | omega) ?_
    exact Z_reti dX7_count_86 (Or.inl rfl) (ck_s h.2.2.1.1 h Fr.rf)
  · skip
    refine X_tableIn (tgt := 87) (off := 86) dX7_count_1 (by decide) (by decide) (by decide) rfl ?_
    refine X_aload_n (nx := 88) dX7_count_87 rfl rfl rfl ?_
    refine M_getP (nx := 91) dX7_count_88 rfl fl_RX7_38 rfl (by first | assumption | rfl | decide | omega) (by first | assumption | rfl | decide | omega) (by first | assumption | rfl | decide | omega) ?_
    refine M_getI (nx := 94) dX7_count_91 rfl fl_RX7_62 rfl (by first | assumption | rfl | decide | omega) (by first | assumption | rfl | decide | omega) ?_
    exact Z_reti dX7_count_94 (Or.inl rfl) (ck_s h.2.1.2.2.1.2.1 h Fr.rf)
  · skip
    refine X_tableIn (tgt := 95) (off := 94) dX7_count_1 (by decide) (by decide) (by decide) rfl ?_
    refine X_aload_n (nx := 96) dX7_count_95 rfl rfl rfl ?_
    refine M_getP (nx := 99) dX7_count_96 rfl fl_RX7_34 rfl (by first | assumption | rfl | decide | omega) (by first | assumption | rfl | decide | omega) (by first | assumption | rfl | decide | omega) ?_
    refine M_getI (nx := 102) dX7_count_99 rfl fl_RX7_62 rfl (by first | assumption | rfl | decide | omega) (by first | assumption | rfl | decide | omega) ?_
    exact Z_reti dX7_count_102 (Or.inl rfl) (ck_s h.2.1.2.1.2.1 h Fr.rf)
  · skip
    refine X_tableOut (tgt := 103) dX7_count_1 (yo) rfl ?_
    refine X_iload_n (nx := 104) dX7_count_103 rfl rfl rfl ?_
    refine X_bipush (v := 11) (nx := 106) dX7_count_104 rfl rfl ?_
    refine X_icmp_lt (tgt := 129) (nx := 109) dX7_count_106 rfl rfl (fun h106 => ?_) (fun h106 => ?_)
    · skip
      refine X_bipush (v := -9) (nx := 131) dX7_count_129 rfl rfl ?_
      exact Z_reti dX7_count_131 (Or.inl rfl) (by unfold m_count; rw [if_neg y0, if_neg y1, if_neg y2, if_neg y3, if_neg y4, if_neg y5, if_neg y6]; first | (rw [if_neg (fun q => absurd h106 (Int32.not_lt.mpr q.1))]; exact ck_s rfl h Fr.rf) | (rw [if_neg (fun q => absurd h112 (Int32.not_lt.mpr q.2))]; exact ck_s rfl h Fr.rf) | (rw [if_pos ⟨Int32.not_lt.mp h106, Int32.not_lt.mp h112⟩, e11]; exact ck_s (h.2.1.2.2.2.1 k k1 k2) h Fr.rf))
    · skip
      refine X_iload_n (nx := 110) dX7_count_109 rfl rfl rfl ?_
      refine X_bipush (v := 16) (nx := 112) dX7_count_110 rfl rfl ?_
      refine X_icmp_gt (tgt := 129) (nx := 115) dX7_count_112 rfl rfl (fun h112 => ?_) (fun h112 => ?_)
      · skip
        refine X_bipush (v := -9) (nx := 131) dX7_count_129 rfl rfl ?_
        exact Z_reti dX7_count_131 (Or.inl rfl) (by unfold m_count; rw [if_neg y0, if_neg y1, if_neg y2, if_neg y3, if_neg y4, if_neg y5, if_neg y6]; first | (rw [if_neg (fun q => absurd h106 (Int32.not_lt.mpr q.1))]; exact ck_s rfl h Fr.rf) | (rw [if_neg (fun q => absurd h112 (Int32.not_lt.mpr q.2))]; exact ck_s rfl h Fr.rf) | (rw [if_pos ⟨Int32.not_lt.mp h106, Int32.not_lt.mp h112⟩, e11]; exact ck_s (h.2.1.2.2.2.1 k k1 k2) h Fr.rf))
      · skip
        obtain ⟨k, k1, k2, e10, e11⟩ := cnt_k (Int32.not_lt.mp h106) (Int32.not_lt.mp h112)
        refine X_aload_n (nx := 116) dX7_count_115 rfl rfl rfl ?_
        refine M_getP (nx := 119) dX7_count_116 rfl fl_RX7_48 rfl (by first | assumption | rfl | decide | omega) (by first | assumption | rfl | decide | omega) (by first | assumption | rfl | decide | omega) ?_
        refine X_iload_n (nx := 120) dX7_count_119 rfl rfl rfl ?_
        refine X_bipush (v := 10) (nx := 122) dX7_count_120 rfl rfl ?_
        refine X_isub (nx := 123) dX7_count_122 rfl ?_
        refine Y_Si2 (nx := 126) dX7_count_123 rfl ml_RX7_92 kj_X7_numberAt ks_X7_numberAt (sp_X7_numberAt (i := k) (by decide) (by decide) (by rw [e10]) (by rw [show (lay 103).2 = 7 from by decide]; omega)) (by first | decide | omega) (by exact Nat.le_of_ble_eq_true rfl) ?_
        refine X_goto (tgt := 131) dX7_count_126 rfl ?_
        exact Z_reti dX7_count_131 (Or.inl rfl) (by unfold m_count; rw [if_neg y0, if_neg y1, if_neg y2, if_neg y3, if_neg y4, if_neg y5, if_neg y6]; first | (rw [if_neg (fun q => absurd h106 (Int32.not_lt.mpr q.1))]; exact ck_s rfl h Fr.rf) | (rw [if_neg (fun q => absurd h112 (Int32.not_lt.mpr q.2))]; exact ck_s rfl h Fr.rf) | (rw [if_pos ⟨Int32.not_lt.mp h106, Int32.not_lt.mp h112⟩, e11]; exact ck_s (h.2.1.2.2.2.1 k k1 k2) h Fr.rf))
