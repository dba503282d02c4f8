/-! MORE CALLS -/
theorem ck_tell {D : Mem} {S : St} {k : Nat} (h : INV1 D S) (hl : (tl S).length < 96) (hk : k < 256) : CK D (nI ((tl S).length + 1), (bk S, kp S, im S, tl S ++ [k], rw_ S, rf S)) (nI ((tl S).length + 1)) (up2 (up2 D 97 (tl S).length (nI k)) 96 1 (nI ((tl S).length + 1))) := by
  obtain ⟨h1, ⟨s1, s2, s3, s4, s5, s6⟩, ht⟩ := h
  refine ⟨rfl, ⟨h1.fr (fun b q1 q2 => by rw [up2_ne (by omega), up2_ne (by omega)]), ⟨(up2_other (by omega)).trans ((up2_other (by omega)).trans s1), s2.add (by rw [show (lay (96 + 1)).2 = 96 from by decide]; exact hl), s3.fr (by rw [up2_ne (by omega), up2_ne (by omega)]) (by rw [up2_ne (by omega), up2_ne (by omega)]), fun i q1 q2 => (up2_other (by omega)).trans ((up2_other (by omega)).trans (s4 i q1 q2)), ?_, s6⟩, ht.fr (fun b q1 q2 => by rw [up2_ne (by omega), up2_ne (by omega)]) ((up2_other (by omega)).trans (up2_other (by omega)))⟩, (Fr.up (by unfold inC; omega)).tr (Fr.up (by unfold inC; omega))⟩
  intro x hx
  rcases List.mem_append.mp hx with hx | hx
  · exact s5 x hx
  · rw [List.mem_singleton.mp hx]; exact hk
theorem ck_row {D : Mem} {S : St} {k : Nat} (h : INV1 D S) (hl : (rw_ S).length < 30) (hk : k < 100) : CK D (nI ((rw_ S).length + 1), (bk S, kp S, im S, tl S, rw_ S ++ [k], rf S)) (nI ((rw_ S).length + 1)) (up2 (up2 D 99 (rw_ S).length (nI k)) 98 1 (nI ((rw_ S).length + 1))) := by
  obtain ⟨h1, ⟨s1, s2, s3, s4, s5, s6⟩, ht⟩ := h
  refine ⟨rfl, ⟨h1.fr (fun b q1 q2 => by rw [up2_ne (by omega), up2_ne (by omega)]), ⟨(up2_other (by omega)).trans ((up2_other (by omega)).trans s1), s2.fr (by rw [up2_ne (by omega), up2_ne (by omega)]) (by rw [up2_ne (by omega), up2_ne (by omega)]), s3.add (by rw [show (lay (98 + 1)).2 = 30 from by decide]; exact hl), fun i q1 q2 => (up2_other (by omega)).trans ((up2_other (by omega)).trans (s4 i q1 q2)), s5, ?_⟩, ht.fr (fun b q1 q2 => by rw [up2_ne (by omega), up2_ne (by omega)]) ((up2_other (by omega)).trans (up2_other (by omega)))⟩, (Fr.up (by unfold inC; omega)).tr (Fr.up (by unfold inC; omega))⟩
  intro x hx
  rcases List.mem_append.mp hx with hx | hx
  · exact s6 x hx
  · rw [List.mem_singleton.mp hx]; exact hk
theorem inv_row0 {D : Mem} {S : St} {K F : Nat → Nat} (h : INVK D S K F) : INVK (up2 D 98 1 0) (bk S, kp S, im S, tl S, [], rf S) K F ∧ Fr inC D (up2 D 98 1 0) := by
  obtain ⟨h1, ⟨s1, s2, s3, s4, s5, s6⟩, ht⟩ := h
  exact ⟨⟨h1.fr (fun b q1 q2 => up2_ne (by omega)), ⟨(up2_other (by omega)).trans s1, s2.fr (up2_ne (by omega)) (up2_ne (by omega)), ⟨Nat.zero_le _, up2_same, fun k hk => absurd hk (Nat.not_lt_zero _)⟩, fun i q1 q2 => (up2_other (by omega)).trans (s4 i q1 q2), s5, fun x hx => absurd hx (List.not_mem_nil)⟩, ht.fr (fun b q1 q2 => up2_ne (by omega)) (up2_other (by omega))⟩, Fr.up (by unfold inC; omega)⟩
theorem not_lt_of {a b : Int32} (h : a < b) (h2 : b ≤ a) : False := Int32.not_lt.mpr h2 h
theorem dX7_letter_0 : decode cX7_letter 0 = .ok (.iload_n 1, 1) := by decide +kernel
theorem dX7_letter_1 : decode cX7_letter 1 = .ok (.ifCond .ge 10, 3) := by decide +kernel
theorem dX7_letter_4 : decode cX7_letter 4 = .ok (.aload_n 0, 1) := by decide +kernel
theorem dX7_letter_5 : decode cX7_letter 5 = .ok (.bipush (-4), 2) := by decide +kernel
theorem dX7_letter_7 : decode cX7_letter 7 = .ok (.invokevirtual 51, 3) := by decide +kernel
theorem dX7_letter_10 : decode cX7_letter 10 = .ok (.ireturn, 1) := by decide +kernel
theorem dX7_letter_11 : decode cX7_letter 11 = .ok (.iload_n 1, 1) := by decide +kernel
theorem dX7_letter_12 : decode cX7_letter 12 = .ok (.sipush 255, 3) := by decide +kernel
theorem dX7_letter_15 : decode cX7_letter 15 = .ok (.if_icmp .gt 13, 3) := by decide +kernel
theorem dX7_letter_18 : decode cX7_letter 18 = .ok (.aload_n 0, 1) := by decide +kernel
theorem dX7_letter_19 : decode cX7_letter 19 = .ok (.getfield 34, 3) := by decide +kernel
theorem dX7_letter_22 : decode cX7_letter 22 = .ok (.invokevirtual 55, 3) := by decide +kernel
theorem dX7_letter_25 : decode cX7_letter 25 = .ok (.ifCond .eq 10, 3) := by decide +kernel
theorem dX7_letter_28 : decode cX7_letter 28 = .ok (.aload_n 0, 1) := by decide +kernel
theorem dX7_letter_29 : decode cX7_letter 29 = .ok (.bipush (-6), 2) := by decide +kernel
theorem dX7_letter_31 : decode cX7_letter 31 = .ok (.invokevirtual 51, 3) := by decide +kernel
theorem dX7_letter_34 : decode cX7_letter 34 = .ok (.ireturn, 1) := by decide +kernel
theorem dX7_letter_35 : decode cX7_letter 35 = .ok (.aload_n 0, 1) := by decide +kernel
theorem dX7_letter_36 : decode cX7_letter 36 = .ok (.getfield 34, 3) := by decide +kernel
theorem dX7_letter_39 : decode cX7_letter 39 = .ok (.iload_n 1, 1) := by decide +kernel
theorem dX7_letter_40 : decode cX7_letter 40 = .ok (.invokevirtual 59, 3) := by decide +kernel
theorem dX7_letter_43 : decode cX7_letter 43 = .ok (.aload_n 0, 1) := by decide +kernel
theorem dX7_letter_44 : decode cX7_letter 44 = .ok (.getfield 34, 3) := by decide +kernel
theorem dX7_letter_47 : decode cX7_letter 47 = .ok (.getfield 62, 3) := by decide +kernel
theorem dX7_letter_50 : decode cX7_letter 50 = .ok (.ireturn, 1) := by decide +kernel
theorem sp_X7_letter {x : Int32} {S : St} {D : Mem} (h : INV1 D S) : Rix 3 j_X7_letter [.ref 0, .int x] D (fun u D' => CK D (m_letter S x) u D') := by
  refine E.start 0 (ls := [some (.ref 0), some (.int x)]) (by decide +kernel) (Nat.le_of_ble_eq_true rfl) rfl (Nat.le_refl _) (Nat.le_refl _) ?_
  have hcm := h.1.2.1.2.1
  have hly : (lay 97).2 = 96 := by decide
  refine X_iload_n (nx := 1) dX7_letter_0 rfl rfl rfl ?_
  refine X_if_ge (tgt := 11) (nx := 4) dX7_letter_1 rfl rfl (fun h1 => ?_) (fun h1 => ?_)
  · skip
    refine X_iload_n (nx := 12) dX7_letter_11 rfl rfl rfl ?_
    refine X_sipush (v := 255) (nx := 15) dX7_letter_12 rfl rfl ?_
    refine X_icmp_gt (tgt := 28) (nx := 18) dX7_letter_15 rfl rfl (fun h15 => ?_) (fun h15 => ?_)
    · skip
      refine X_aload_n (nx := 29) dX7_letter_28 rfl rfl rfl ?_
      refine X_bipush (v := -6) (nx := 31) dX7_letter_29 rfl rfl ?_
      refine Y_Vi1 (nx := 34) dX7_letter_31 rfl ml_RX7_51 kj_X7_refuse kv_X7_refuse (sp_X7_refuse (k := 6) rfl (by omega) (by omega)) (by first | assumption | rfl | decide | omega) (by first | assumption | rfl | decide | omega) (by decide) rfl (by first | decide | omega) (by exact Nat.le_of_ble_eq_true rfl) ?_
      exact Z_reti dX7_letter_34 (Or.inl rfl) (by unfold m_letter; rw [if_neg (Int32.not_lt.mpr h1)]; first | (rw [if_pos (Or.inl h15)]; exact ck_no (k := 6) h Fr.rf (by omega) (by omega)) | (rw [if_pos (Or.inr c25)]; exact ck_no (k := 6) h Fr.rf (by omega) (by omega)))
    · skip
      refine X_aload_n (nx := 19) dX7_letter_18 rfl rfl rfl ?_
      refine M_getP (nx := 22) dX7_letter_19 rfl fl_RX7_34 rfl (by first | assumption | rfl | decide | omega) (by first | assumption | rfl | decide | omega) (by first | assumption | rfl | decide | omega) ?_
      refine Y_Vi0 (nx := 25) dX7_letter_22 rfl ml_RX7_55 kj_X2_isFull kv_X2_isFull (sp_X2_isFull (Or.inl rfl) h.2.1.2.1) (by first | assumption | rfl | decide | omega) (by first | assumption | rfl | decide | omega) (by decide) rfl (by first | decide | omega) (by exact Nat.le_of_ble_eq_true rfl) ?_
      refine X_if_eq (tgt := 35) (nx := 28) dX7_letter_25 rfl rfl (fun h25 => ?_) (fun h25 => ?_)
      · skip
        have n25 := nb h25
        have hl : (tl S).length < 96 := Nat.not_le.mp (fun q => n25 (decide_eq_true q))
        obtain ⟨k, hk, rfl⟩ := ex_nI (x := x) (N := 256) (n := 256) rfl (by decide) ⟨h1, Int32.lt_of_le_of_lt (Int32.not_lt.mp h15) (by decide)⟩
        have kk : (nI k).toNatClampNeg = k := nI_clamp (by omega)
        refine X_aload_n (nx := 36) dX7_letter_35 rfl rfl rfl ?_
        refine M_getP (nx := 39) dX7_letter_36 rfl fl_RX7_34 rfl (by first | assumption | rfl | decide | omega) (by first | assumption | rfl | decide | omega) (by first | assumption | rfl | decide | omega) ?_
        refine X_iload_n (nx := 40) dX7_letter_39 rfl rfl rfl ?_
        refine Y_Vv1 (nx := 43) dX7_letter_40 rfl ml_RX7_59 kj_X2_add kv_X2_add (sp_X2_add (Or.inl rfl) h.2.1.2.1 (by rw [hly]; exact hl)) (by first | assumption | rfl | decide | omega) (by first | assumption | rfl | decide | omega) (by decide) rfl (by first | decide | omega) (by exact Nat.le_of_ble_eq_true rfl) ?_
        refine X_aload_n (nx := 44) dX7_letter_43 rfl rfl rfl ?_
        refine M_getP (nx := 47) dX7_letter_44 rfl fl_RX7_34 rfl (by first | assumption | rfl | decide | omega) (by first | assumption | rfl | decide | omega) (by first | assumption | rfl | decide | omega) ?_
        refine M_getI (nx := 50) dX7_letter_47 rfl fl_RX7_62 rfl (by first | assumption | rfl | decide | omega) (by first | assumption | rfl | decide | omega) ?_
        refine X_top (up2_same) ?_
        exact Z_reti dX7_letter_50 (Or.inl rfl) (by unfold m_letter; rw [if_neg (Int32.not_lt.mpr h1), if_neg (fun q => q.elim h15 (fun q => absurd hl (by omega))), kk]; exact ck_tell h hl hk)
      · skip
        have c25 := b2i_t.mp h25
        have c25 : 96 ≤ (tl S).length := of_decide_eq_true c25
        refine X_aload_n (nx := 29) dX7_letter_28 rfl rfl rfl ?_
        refine X_bipush (v := -6) (nx := 31) dX7_letter_29 rfl rfl ?_
        refine Y_Vi1 (nx := 34) dX7_letter_31 rfl ml_RX7_51 kj_X7_refuse kv_X7_refuse (sp_X7_refuse (k := 6) rfl (by omega) (by omega)) (by first | assumption | rfl | decide | omega) (by first | assumption | rfl | decide | omega) (by decide) rfl (by first | decide | omega) (by exact Nat.le_of_ble_eq_true rfl) ?_
        exact Z_reti dX7_letter_34 (Or.inl rfl) (by unfold m_letter; rw [if_neg (Int32.not_lt.mpr h1)]; first | (rw [if_pos (Or.inl h15)]; exact ck_no (k := 6) h Fr.rf (by omega) (by omega)) | (rw [if_pos (Or.inr c25)]; exact ck_no (k := 6) h Fr.rf (by omega) (by omega)))
  · skip
    refine X_aload_n (nx := 5) dX7_letter_4 rfl rfl rfl ?_
    refine X_bipush (v := -4) (nx := 7) dX7_letter_5 rfl rfl ?_
    refine Y_Vi1 (nx := 10) dX7_letter_7 rfl ml_RX7_51 kj_X7_refuse kv_X7_refuse (sp_X7_refuse (k := 4) rfl (by omega) (by omega)) (by first | assumption | rfl | decide | omega) (by first | assumption | rfl | decide | omega) (by decide) rfl (by first | decide | omega) (by exact Nat.le_of_ble_eq_true rfl) ?_
    exact Z_reti dX7_letter_10 (Or.inl rfl) (by unfold m_letter; rw [if_pos (Int32.not_le.mp h1)]; exact ck_no (k := 4) h Fr.rf (by omega) (by omega))
theorem dX7_row_0 : decode cX7_row 0 = .ok (.iload_n 1, 1) := by decide +kernel
theorem dX7_row_1 : decode cX7_row 1 = .ok (.ifCond .ge 10, 3) := by decide +kernel
theorem dX7_row_4 : decode cX7_row 4 = .ok (.aload_n 0, 1) := by decide +kernel
theorem dX7_row_5 : decode cX7_row 5 = .ok (.bipush (-4), 2) := by decide +kernel
theorem dX7_row_7 : decode cX7_row 7 = .ok (.invokevirtual 51, 3) := by decide +kernel
theorem dX7_row_10 : decode cX7_row 10 = .ok (.ireturn, 1) := by decide +kernel
theorem dX7_row_11 : decode cX7_row 11 = .ok (.iload_n 1, 1) := by decide +kernel
theorem dX7_row_12 : decode cX7_row 12 = .ok (.bipush 99, 2) := by decide +kernel
theorem dX7_row_14 : decode cX7_row 14 = .ok (.if_icmp .gt 13, 3) := by decide +kernel
theorem dX7_row_17 : decode cX7_row 17 = .ok (.aload_n 0, 1) := by decide +kernel
theorem dX7_row_18 : decode cX7_row 18 = .ok (.getfield 38, 3) := by decide +kernel
theorem dX7_row_21 : decode cX7_row 21 = .ok (.invokevirtual 55, 3) := by decide +kernel
theorem dX7_row_24 : decode cX7_row 24 = .ok (.ifCond .eq 10, 3) := by decide +kernel
theorem dX7_row_27 : decode cX7_row 27 = .ok (.aload_n 0, 1) := by decide +kernel
theorem dX7_row_28 : decode cX7_row 28 = .ok (.bipush (-6), 2) := by decide +kernel
theorem dX7_row_30 : decode cX7_row 30 = .ok (.invokevirtual 51, 3) := by decide +kernel
theorem dX7_row_33 : decode cX7_row 33 = .ok (.ireturn, 1) := by decide +kernel
theorem dX7_row_34 : decode cX7_row 34 = .ok (.aload_n 0, 1) := by decide +kernel
theorem dX7_row_35 : decode cX7_row 35 = .ok (.getfield 38, 3) := by decide +kernel
theorem dX7_row_38 : decode cX7_row 38 = .ok (.iload_n 1, 1) := by decide +kernel
theorem dX7_row_39 : decode cX7_row 39 = .ok (.invokevirtual 59, 3) := by decide +kernel
theorem dX7_row_42 : decode cX7_row 42 = .ok (.aload_n 0, 1) := by decide +kernel
theorem dX7_row_43 : decode cX7_row 43 = .ok (.getfield 38, 3) := by decide +kernel
theorem dX7_row_46 : decode cX7_row 46 = .ok (.getfield 62, 3) := by decide +kernel
theorem dX7_row_49 : decode cX7_row 49 = .ok (.ireturn, 1) := by decide +kernel
theorem sp_X7_row {x : Int32} {S : St} {D : Mem} (h : INV1 D S) : Rix 3 j_X7_row [.ref 0, .int x] D (fun u D' => CK D (m_row S x) u D') := by
  refine E.start 0 (ls := [some (.ref 0), some (.int x)]) (by decide +kernel) (Nat.le_of_ble_eq_true rfl) rfl (Nat.le_refl _) (Nat.le_refl _) ?_
  have hcm := h.1.2.1.2.1
  have hly : (lay 99).2 = 30 := by decide
  refine X_iload_n (nx := 1) dX7_row_0 rfl rfl rfl ?_
  refine X_if_ge (tgt := 11) (nx := 4) dX7_row_1 rfl rfl (fun h1 => ?_) (fun h1 => ?_)
  · skip
    refine X_iload_n (nx := 12) dX7_row_11 rfl rfl rfl ?_
    refine X_bipush (v := 99) (nx := 14) dX7_row_12 rfl rfl ?_
    refine X_icmp_gt (tgt := 27) (nx := 17) dX7_row_14 rfl rfl (fun h14 => ?_) (fun h14 => ?_)
    · skip
      refine X_aload_n (nx := 28) dX7_row_27 rfl rfl rfl ?_
      refine X_bipush (v := -6) (nx := 30) dX7_row_28 rfl rfl ?_
      refine Y_Vi1 (nx := 33) dX7_row_30 rfl ml_RX7_51 kj_X7_refuse kv_X7_refuse (sp_X7_refuse (k := 6) rfl (by omega) (by omega)) (by first | assumption | rfl | decide | omega) (by first | assumption | rfl | decide | omega) (by decide) rfl (by first | decide | omega) (by exact Nat.le_of_ble_eq_true rfl) ?_
      exact Z_reti dX7_row_33 (Or.inl rfl) (by unfold m_row; rw [if_neg (Int32.not_lt.mpr h1)]; first | (rw [if_pos (Or.inl h14)]; exact ck_no (k := 6) h Fr.rf (by omega) (by omega)) | (rw [if_pos (Or.inr c24)]; exact ck_no (k := 6) h Fr.rf (by omega) (by omega)))
    · skip
      refine X_aload_n (nx := 18) dX7_row_17 rfl rfl rfl ?_
      refine M_getP (nx := 21) dX7_row_18 rfl fl_RX7_38 rfl (by first | assumption | rfl | decide | omega) (by first | assumption | rfl | decide | omega) (by first | assumption | rfl | decide | omega) ?_
      refine Y_Vi0 (nx := 24) dX7_row_21 rfl ml_RX7_55 kj_X2_isFull kv_X2_isFull (sp_X2_isFull (Or.inr (Or.inl rfl)) h.2.1.2.2.1) (by first | assumption | rfl | decide | omega) (by first | assumption | rfl | decide | omega) (by decide) rfl (by first | decide | omega) (by exact Nat.le_of_ble_eq_true rfl) ?_
      refine X_if_eq (tgt := 34) (nx := 27) dX7_row_24 rfl rfl (fun h24 => ?_) (fun h24 => ?_)
      · skip
        have n24 := nb h24
        have hl : (rw_ S).length < 30 := Nat.not_le.mp (fun q => n24 (decide_eq_true q))
        obtain ⟨k, hk, rfl⟩ := ex_nI (x := x) (N := 100) (n := 100) rfl (by decide) ⟨h1, Int32.lt_of_le_of_lt (Int32.not_lt.mp h14) (by decide)⟩
        have kk : (nI k).toNatClampNeg = k := nI_clamp (by omega)
        refine X_aload_n (nx := 35) dX7_row_34 rfl rfl rfl ?_
        refine M_getP (nx := 38) dX7_row_35 rfl fl_RX7_38 rfl (by first | assumption | rfl | decide | omega) (by first | assumption | rfl | decide | omega) (by first | assumption | rfl | decide | omega) ?_
        refine X_iload_n (nx := 39) dX7_row_38 rfl rfl rfl ?_
        refine Y_Vv1 (nx := 42) dX7_row_39 rfl ml_RX7_59 kj_X2_add kv_X2_add (sp_X2_add (Or.inr (Or.inl rfl)) h.2.1.2.2.1 (by rw [hly]; exact hl)) (by first | assumption | rfl | decide | omega) (by first | assumption | rfl | decide | omega) (by decide) rfl (by first | decide | omega) (by exact Nat.le_of_ble_eq_true rfl) ?_
        refine X_aload_n (nx := 43) dX7_row_42 rfl rfl rfl ?_
        refine M_getP (nx := 46) dX7_row_43 rfl fl_RX7_38 rfl (by first | assumption | rfl | decide | omega) (by first | assumption | rfl | decide | omega) (by first | assumption | rfl | decide | omega) ?_
        refine M_getI (nx := 49) dX7_row_46 rfl fl_RX7_62 rfl (by first | assumption | rfl | decide | omega) (by first | assumption | rfl | decide | omega) ?_
        refine X_top (up2_same) ?_
        exact Z_reti dX7_row_49 (Or.inl rfl) (by unfold m_row; rw [if_neg (Int32.not_lt.mpr h1), if_neg (fun q => q.elim h14 (fun q => absurd hl (by omega))), kk]; exact ck_row h hl hk)
      · skip
        have c24 := b2i_t.mp h24
        have c24 : 30 ≤ (rw_ S).length := of_decide_eq_true c24
        refine X_aload_n (nx := 28) dX7_row_27 rfl rfl rfl ?_
        refine X_bipush (v := -6) (nx := 30) dX7_row_28 rfl rfl ?_
        refine Y_Vi1 (nx := 33) dX7_row_30 rfl ml_RX7_51 kj_X7_refuse kv_X7_refuse (sp_X7_refuse (k := 6) rfl (by omega) (by omega)) (by first | assumption | rfl | decide | omega) (by first | assumption | rfl | decide | omega) (by decide) rfl (by first | decide | omega) (by exact Nat.le_of_ble_eq_true rfl) ?_
        exact Z_reti dX7_row_33 (Or.inl rfl) (by unfold m_row; rw [if_neg (Int32.not_lt.mpr h1)]; first | (rw [if_pos (Or.inl h14)]; exact ck_no (k := 6) h Fr.rf (by omega) (by omega)) | (rw [if_pos (Or.inr c24)]; exact ck_no (k := 6) h Fr.rf (by omega) (by omega)))
  · skip
    refine X_aload_n (nx := 5) dX7_row_4 rfl rfl rfl ?_
    refine X_bipush (v := -4) (nx := 7) dX7_row_5 rfl rfl ?_
    refine Y_Vi1 (nx := 10) dX7_row_7 rfl ml_RX7_51 kj_X7_refuse kv_X7_refuse (sp_X7_refuse (k := 4) rfl (by omega) (by omega)) (by first | assumption | rfl | decide | omega) (by first | assumption | rfl | decide | omega) (by decide) rfl (by first | decide | omega) (by exact Nat.le_of_ble_eq_true rfl) ?_
    exact Z_reti dX7_row_10 (Or.inl rfl) (by unfold m_row; rw [if_pos (Int32.not_le.mp h1)]; exact ck_no (k := 4) h Fr.rf (by omega) (by omega))
theorem dX7_clear_0 : decode cX7_clear 0 = .ok (.aload_n 0, 1) := by decide +kernel
theorem dX7_clear_1 : decode cX7_clear 1 = .ok (.getfield 38, 3) := by decide +kernel
theorem dX7_clear_4 : decode cX7_clear 4 = .ok (.getfield 62, 3) := by decide +kernel
theorem dX7_clear_7 : decode cX7_clear 7 = .ok (.istore_n 1, 1) := by decide +kernel
theorem dX7_clear_8 : decode cX7_clear 8 = .ok (.aload_n 0, 1) := by decide +kernel
theorem dX7_clear_9 : decode cX7_clear 9 = .ok (.getfield 38, 3) := by decide +kernel
theorem dX7_clear_12 : decode cX7_clear 12 = .ok (.iconst 0, 1) := by decide +kernel
theorem dX7_clear_13 : decode cX7_clear 13 = .ok (.putfield 62, 3) := by decide +kernel
theorem dX7_clear_16 : decode cX7_clear 16 = .ok (.iload_n 1, 1) := by decide +kernel
theorem dX7_clear_17 : decode cX7_clear 17 = .ok (.ireturn, 1) := by decide +kernel
theorem sp_X7_clear {S : St} {D : Mem} (h : INV1 D S) : Rix 1 j_X7_clear [.ref 0] D (fun u D' => CK D (m_clear S) u D') := by
  refine E.start 1 (ls := [some (.ref 0), none]) (by decide +kernel) (Nat.le_of_ble_eq_true rfl) rfl (Nat.le_refl _) (Nat.le_refl _) ?_
  have hcm := h.1.2.1.2.1
  refine X_aload_n (nx := 1) dX7_clear_0 rfl rfl rfl ?_
  refine M_getP (nx := 4) dX7_clear_1 rfl fl_RX7_38 rfl (by first | assumption | rfl | decide | omega) (by first | assumption | rfl | decide | omega) (by first | assumption | rfl | decide | omega) ?_
  refine M_getI (nx := 7) dX7_clear_4 rfl fl_RX7_62 rfl (by first | assumption | rfl | decide | omega) (by first | assumption | rfl | decide | omega) ?_
  refine X_top (h.2.1.2.2.1.2.1) ?_
  refine X_istore_n (i := 1) (nx := 8) dX7_clear_7 rfl rfl (by decide) rfl (st_s (st_0)) ?_
  refine X_aload_n (nx := 9) dX7_clear_8 rfl rfl rfl ?_
  refine M_getP (nx := 12) dX7_clear_9 rfl fl_RX7_38 rfl (by first | assumption | rfl | decide | omega) (by first | assumption | rfl | decide | omega) (by first | assumption | rfl | decide | omega) ?_
  refine X_iconst (v := 0) (nx := 13) dX7_clear_12 rfl rfl ?_
  refine M_putI (nx := 16) dX7_clear_13 rfl fl_RX7_62 rfl rfl (by first | assumption | rfl | decide | omega) (by first | assumption | rfl | decide | omega) ?_
  refine X_iload_n (nx := 17) dX7_clear_16 rfl rfl rfl ?_
  exact Z_reti dX7_clear_17 (Or.inl rfl) (⟨rfl, (inv_row0 h).1, (inv_row0 h).2⟩)
theorem dX7_verbs_0 : decode cX7_verbs 0 = .ok (.iload_n 1, 1) := by decide +kernel
theorem dX7_verbs_1 : decode cX7_verbs 1 = .ok (.invokestatic 167, 3) := by decide +kernel
theorem dX7_verbs_4 : decode cX7_verbs 4 = .ok (.ifCond .ne 9, 3) := by decide +kernel
theorem dX7_verbs_7 : decode cX7_verbs 7 = .ok (.aload_n 0, 1) := by decide +kernel
theorem dX7_verbs_8 : decode cX7_verbs 8 = .ok (.iconst (-1), 1) := by decide +kernel
theorem dX7_verbs_9 : decode cX7_verbs 9 = .ok (.invokevirtual 51, 3) := by decide +kernel
theorem dX7_verbs_12 : decode cX7_verbs 12 = .ok (.ireturn, 1) := by decide +kernel
theorem dX7_verbs_13 : decode cX7_verbs 13 = .ok (.aload_n 0, 1) := by decide +kernel
theorem dX7_verbs_14 : decode cX7_verbs 14 = .ok (.getfield 10, 3) := by decide +kernel
theorem dX7_verbs_17 : decode cX7_verbs 17 = .ok (.invokevirtual 125, 3) := by decide +kernel
theorem dX7_verbs_20 : decode cX7_verbs 20 = .ok (.istore_n 2, 1) := by decide +kernel
theorem dX7_verbs_21 : decode cX7_verbs 21 = .ok (.iconst 0, 1) := by decide +kernel
theorem dX7_verbs_22 : decode cX7_verbs 22 = .ok (.istore_n 3, 1) := by decide +kernel
theorem dX7_verbs_23 : decode cX7_verbs 23 = .ok (.iconst 0, 1) := by decide +kernel
theorem dX7_verbs_24 : decode cX7_verbs 24 = .ok (.istore 4, 2) := by decide +kernel
theorem dX7_verbs_26 : decode cX7_verbs 26 = .ok (.iload 4, 2) := by decide +kernel
theorem dX7_verbs_28 : decode cX7_verbs 28 = .ok (.iconst 4, 1) := by decide +kernel
theorem dX7_verbs_29 : decode cX7_verbs 29 = .ok (.if_icmp .ge 30, 3) := by decide +kernel
theorem dX7_verbs_32 : decode cX7_verbs 32 = .ok (.aload_n 0, 1) := by decide +kernel
theorem dX7_verbs_33 : decode cX7_verbs 33 = .ok (.getfield 25, 3) := by decide +kernel
theorem dX7_verbs_36 : decode cX7_verbs 36 = .ok (.iload_n 1, 1) := by decide +kernel
theorem dX7_verbs_37 : decode cX7_verbs 37 = .ok (.iload 4, 2) := by decide +kernel
theorem dX7_verbs_39 : decode cX7_verbs 39 = .ok (.iload_n 2, 1) := by decide +kernel
theorem dX7_verbs_40 : decode cX7_verbs 40 = .ok (.invokevirtual 180, 3) := by decide +kernel
theorem dX7_verbs_43 : decode cX7_verbs 43 = .ok (.ifCond .lt 10, 3) := by decide +kernel
theorem dX7_verbs_46 : decode cX7_verbs 46 = .ok (.iload_n 3, 1) := by decide +kernel
theorem dX7_verbs_47 : decode cX7_verbs 47 = .ok (.iconst 1, 1) := by decide +kernel
theorem dX7_verbs_48 : decode cX7_verbs 48 = .ok (.iload 4, 2) := by decide +kernel
theorem dX7_verbs_50 : decode cX7_verbs 50 = .ok (.ishl, 1) := by decide +kernel
theorem dX7_verbs_51 : decode cX7_verbs 51 = .ok (.ior, 1) := by decide +kernel
theorem dX7_verbs_52 : decode cX7_verbs 52 = .ok (.istore_n 3, 1) := by decide +kernel
theorem dX7_verbs_53 : decode cX7_verbs 53 = .ok (.iinc 4 1, 3) := by decide +kernel
theorem dX7_verbs_56 : decode cX7_verbs 56 = .ok (.goto (-30), 3) := by decide +kernel
theorem dX7_verbs_59 : decode cX7_verbs 59 = .ok (.iload_n 3, 1) := by decide +kernel
theorem dX7_verbs_60 : decode cX7_verbs 60 = .ok (.ireturn, 1) := by decide +kernel
theorem brg_no {D D' : Mem} {S : St} {K F : Nat → Nat} {w v p : Nat} {u : Int32} (g : BRG D S K F w v p u D') (hu : u < 0) : (mtE (bk S) w v p K F).isSome = false := by
  have := g.2.2.2.1
  cases hm : mtE (bk S) w v p K F with
  | none => rfl
  | some k => rw [this, hm] at hu; exact absurd hu (nI_neg (show k < 2147483648 by have := g.lt hm; omega))
theorem brg_yes {D D' : Mem} {S : St} {K F : Nat → Nat} {w v p : Nat} {u : Int32} (g : BRG D S K F w v p u D') (hu : ¬ u < 0) : (mtE (bk S) w v p K F).isSome = true := by
  cases hm : mtE (bk S) w v p K F with
  | some k => rfl
  | none => rw [g.2.2.2.1, hm] at hu; exact absurd (by decide) hu
theorem lp_verbs {S : St} {D : Mem} {p : Nat} (hp : p < 341) : ∀ (m : Nat) (i : Nat) (D1 : Mem), i + m = 4 → INV1 D1 S → Fr inC D D1 → X 21 138 j_X7_verbs 26 [some (.ref 0), some (.int (nI p)), some (.int (nI (wS S))), some (.int (nI (mkn (fun v => (ME S v p).isSome) i))), some (.int (nI i))] [] (138, P0, D1) (fun x σ => ∃ (u : Int32) (D' : Mem), x = [.int u] ∧ σ = wd D' ∧ CK D (nI (mkn (fun v => (ME S v p).isSome) 4), S) u D') := by
  intro m
  induction m with
  | zero =>
    intro i D1 hi h hf
    refine X_iload (nx := 28) dX7_verbs_26 rfl rfl ?_
    refine X_iconst (v := nI 4) (nx := 29) dX7_verbs_28 rfl rfl ?_
    refine X_icmp_ge (tgt := 59) (nx := 32) dX7_verbs_29 rfl rfl (fun h29 => ?_) (fun h29 => ?_)
    · skip
      refine X_iload_n (nx := 60) dX7_verbs_59 rfl rfl rfl ?_
      exact Z_reti dX7_verbs_60 (Or.inl rfl) (by have e : i = 4 := (by omega); rw [e]; exact ck_s rfl h hf)
    · exact absurd h29 (fun q => q (nI_le (by omega) (by omega)))
  | succ m ih =>
    intro i D1 hi h hf
    refine X_iload (nx := 28) dX7_verbs_26 rfl rfl ?_
    refine X_iconst (v := nI 4) (nx := 29) dX7_verbs_28 rfl rfl ?_
    refine X_icmp_ge (tgt := 59) (nx := 32) dX7_verbs_29 rfl rfl (fun h29 => ?_) (fun h29 => ?_)
    · exact absurd h29 (nI_ge (by omega) (by omega))
    · skip
      refine X_aload_n (nx := 33) dX7_verbs_32 rfl rfl rfl ?_
      refine M_getP (nx := 36) dX7_verbs_33 rfl fl_RX7_25 rfl (by first | assumption | rfl | decide | omega) (by first | assumption | rfl | decide | omega) (by first | assumption | rfl | decide | omega) ?_
      refine X_iload_n (nx := 37) dX7_verbs_36 rfl rfl rfl ?_
      refine X_iload (nx := 39) dX7_verbs_37 rfl rfl ?_
      refine X_iload_n (nx := 40) dX7_verbs_39 rfl rfl rfl ?_
      refine Z_Vi3 (nx := 43) dX7_verbs_40 rfl ml_RX7_180 kj_X6_bring kv_X6_bring (sp_X6_bring h rfl hp rfl (by omega) rfl (wS_lt S)) (by first | assumption | rfl | decide | omega) (by first | assumption | rfl | decide | omega) (by decide) rfl (by first | decide | omega) (by exact Nat.le_of_ble_eq_true rfl) (fun u40 D40 g40 => ?_)
      refine X_if_lt (tgt := 53) (nx := 46) dX7_verbs_43 rfl rfl (fun h43 => ?_) (fun h43 => ?_)
      · skip
        have hz := ior_skip (p := fun v => (ME S v p).isSome) (i := i) (brg_no g40 h43)
        rw [hz]
        refine X_iinc (nx := 56) dX7_verbs_53 rfl (by decide) rfl (by first | exact ii1 _ | rfl) rfl (st_s (st_s (st_s (st_s (st_0))))) ?_
        refine X_goto (tgt := 26) dX7_verbs_56 rfl ?_
        exact ih (i + 1) D40 (by omega) g40.1 (hf.tr g40.2.1.sc)
      · skip
        have hz := brg_yes g40 h43
        refine X_iload_n (nx := 47) dX7_verbs_46 rfl rfl rfl ?_
        refine X_iconst (v := 1) (nx := 48) dX7_verbs_47 rfl rfl ?_
        refine X_iload (nx := 50) dX7_verbs_48 rfl rfl ?_
        refine X_ishl (nx := 51) dX7_verbs_50 rfl ?_
        refine X_ior (nx := 52) dX7_verbs_51 rfl ?_
        refine X_top (ior_step (p := fun v => (ME S v p).isSome) hz (by omega)) ?_
        refine X_istore_n (i := 3) (nx := 53) dX7_verbs_52 rfl rfl (by decide) rfl (st_s (st_s (st_s (st_0)))) ?_
        refine X_iinc (nx := 56) dX7_verbs_53 rfl (by decide) rfl (by first | exact ii1 _ | rfl) rfl (st_s (st_s (st_s (st_s (st_0))))) ?_
        refine X_goto (tgt := 26) dX7_verbs_56 rfl ?_
        exact ih (i + 1) D40 (by omega) g40.1 (hf.tr g40.2.1.sc)
theorem sp_X7_verbs {x : Int32} {S : St} {D : Mem} (h : INV1 D S) : Rix 21 j_X7_verbs [.ref 0, .int x] D (fun u D' => CK D (m_verbs S x) u D') := by
  refine E.start 3 (ls := [some (.ref 0), some (.int x), none, none, none]) (by decide +kernel) (Nat.le_of_ble_eq_true rfl) rfl (Nat.le_refl _) (Nat.le_refl _) ?_
  have hcm := h.1.2.1.2.1
  refine X_iload_n (nx := 1) dX7_verbs_0 rfl rfl rfl ?_
  refine Y_Si1 (nx := 4) dX7_verbs_1 rfl ml_RX7_167 kj_X7_isPath ks_X7_isPath (sp_X7_isPath) (by first | decide | omega) (by exact Nat.le_of_ble_eq_true rfl) ?_
  refine X_if_ne (tgt := 13) (nx := 7) dX7_verbs_4 rfl rfl (fun h4 => ?_) (fun h4 => ?_)
  · skip
    have c4 := b2i_t.mp h4
    obtain ⟨p, hp, rfl⟩ := ex_nI (N := 341) (n := 341) rfl (by decide) (of_decide_eq_true c4)
    have k4 : (nI p).toNatClampNeg = p := nI_clamp (by omega)
    refine X_aload_n (nx := 14) dX7_verbs_13 rfl rfl rfl ?_
    refine M_getP (nx := 17) dX7_verbs_14 rfl fl_RX7_10 rfl (by first | assumption | rfl | decide | omega) (by first | assumption | rfl | decide | omega) (by first | assumption | rfl | decide | omega) ?_
    refine Y_Vi0 (nx := 20) dX7_verbs_17 rfl ml_RX7_125 kj_X0_thereBits kv_X0_thereBits (sp_X0_thereBits (Or.inl rfl) h.1.1) (by first | assumption | rfl | decide | omega) (by first | assumption | rfl | decide | omega) (by decide) rfl (by first | decide | omega) (by exact Nat.le_of_ble_eq_true rfl) ?_
    refine X_istore_n (i := 2) (nx := 21) dX7_verbs_20 rfl rfl (by decide) rfl (st_s (st_s (st_0))) ?_
    refine X_iconst (v := 0) (nx := 22) dX7_verbs_21 rfl rfl ?_
    refine X_istore_n (i := 3) (nx := 23) dX7_verbs_22 rfl rfl (by decide) rfl (st_s (st_s (st_s (st_0)))) ?_
    refine X_iconst (v := nI 0) (nx := 24) dX7_verbs_23 rfl rfl ?_
    refine X_istore (i := 4) (nx := 26) dX7_verbs_24 rfl (by decide) rfl (st_s (st_s (st_s (st_s (st_0))))) ?_
    (unfold m_verbs; rw [if_pos c4, k4]; exact lp_verbs hp 4 0 D rfl h Fr.rf)
  · skip
    have n4 := nb h4
    refine X_aload_n (nx := 8) dX7_verbs_7 rfl rfl rfl ?_
    refine X_iconst (v := -1) (nx := 9) dX7_verbs_8 rfl rfl ?_
    refine Y_Vi1 (nx := 12) dX7_verbs_9 rfl ml_RX7_51 kj_X7_refuse kv_X7_refuse (sp_X7_refuse (k := 1) rfl (by omega) (by omega)) (by first | assumption | rfl | decide | omega) (by first | assumption | rfl | decide | omega) (by decide) rfl (by first | decide | omega) (by exact Nat.le_of_ble_eq_true rfl) ?_
    exact Z_reti dX7_verbs_12 (Or.inl rfl) (by unfold m_verbs; rw [if_neg n4]; exact ck_no (k := 1) h Fr.rf (by omega) (by omega))
theorem and_all : ∀ r, r < 10 → ∀ w, w < 1024 → nI w &&& ((1 : Int32) <<< (nI r &&& 31) ^^^ -1) = nI (w &&& (1023 - 2 ^ r)) := by decide +kernel
theorem msk_tb : ∀ r, r < 10 → ∀ k, k < 10 → (1023 - 2 ^ r).testBit k = !decide (k = r) := by decide
theorem mkn_eta {w n : Nat} (h : w < 2 ^ n) : mkn w.testBit n = w := by
  apply Nat.eq_of_testBit_eq
  intro k
  rw [mkn_tb]
  by_cases hk : k < n
  · rw [decide_eq_true hk, Bool.true_and]
  · rw [decide_eq_false hk, Bool.false_and, Nat.testBit_lt_two_pow (Nat.lt_of_lt_of_le h (Nat.pow_le_pow_right (by decide) (Nat.not_lt.mp hk)))]
theorem wo_eq {p : Nat → Bool} {r : Nat} (hr : r < 10) : nI (mkn p 10) &&& ((1 : Int32) <<< (nI r &&& 31) ^^^ -1) = nI (mkn (fun i => p i && !decide (i = r)) 10) := by
  rw [and_all r hr _ (mkn_lt _ 10)]
  congr 1
  rw [← mkn_eta (w := mkn p 10 &&& (1023 - 2 ^ r)) (n := 10) (Nat.lt_of_le_of_lt Nat.and_le_left (mkn_lt _ 10))]
  refine mkn_congr (fun k hk => ?_)
  rw [Nat.testBit_and, mkn_tb, decide_eq_true hk, Bool.true_and, msk_tb r hr k hk]
theorem dX7_without_0 : decode cX7_without 0 = .ok (.aload_n 0, 1) := by decide +kernel
theorem dX7_without_1 : decode cX7_without 1 = .ok (.getfield 10, 3) := by decide +kernel
theorem dX7_without_4 : decode cX7_without 4 = .ok (.iload_n 1, 1) := by decide +kernel
theorem dX7_without_5 : decode cX7_without 5 = .ok (.invokevirtual 103, 3) := by decide +kernel
theorem dX7_without_8 : decode cX7_without 8 = .ok (.ifCond .eq 10, 3) := by decide +kernel
theorem dX7_without_11 : decode cX7_without 11 = .ok (.iload_n 2, 1) := by decide +kernel
theorem dX7_without_12 : decode cX7_without 12 = .ok (.invokestatic 167, 3) := by decide +kernel
theorem dX7_without_15 : decode cX7_without 15 = .ok (.ifCond .ne 9, 3) := by decide +kernel
theorem dX7_without_18 : decode cX7_without 18 = .ok (.aload_n 0, 1) := by decide +kernel
theorem dX7_without_19 : decode cX7_without 19 = .ok (.iconst (-1), 1) := by decide +kernel
theorem dX7_without_20 : decode cX7_without 20 = .ok (.invokevirtual 51, 3) := by decide +kernel
theorem dX7_without_23 : decode cX7_without 23 = .ok (.ireturn, 1) := by decide +kernel
theorem dX7_without_24 : decode cX7_without 24 = .ok (.iload_n 3, 1) := by decide +kernel
theorem dX7_without_25 : decode cX7_without 25 = .ok (.invokestatic 115, 3) := by decide +kernel
theorem dX7_without_28 : decode cX7_without 28 = .ok (.ifCond .ne 10, 3) := by decide +kernel
theorem dX7_without_31 : decode cX7_without 31 = .ok (.aload_n 0, 1) := by decide +kernel
theorem dX7_without_32 : decode cX7_without 32 = .ok (.bipush (-2), 2) := by decide +kernel
theorem dX7_without_34 : decode cX7_without 34 = .ok (.invokevirtual 51, 3) := by decide +kernel
theorem dX7_without_37 : decode cX7_without 37 = .ok (.ireturn, 1) := by decide +kernel
theorem dX7_without_38 : decode cX7_without 38 = .ok (.aload_n 0, 1) := by decide +kernel
theorem dX7_without_39 : decode cX7_without 39 = .ok (.getfield 25, 3) := by decide +kernel
theorem dX7_without_42 : decode cX7_without 42 = .ok (.iload_n 2, 1) := by decide +kernel
theorem dX7_without_43 : decode cX7_without 43 = .ok (.iload_n 3, 1) := by decide +kernel
theorem dX7_without_44 : decode cX7_without 44 = .ok (.aload_n 0, 1) := by decide +kernel
theorem dX7_without_45 : decode cX7_without 45 = .ok (.getfield 10, 3) := by decide +kernel
theorem dX7_without_48 : decode cX7_without 48 = .ok (.invokevirtual 125, 3) := by decide +kernel
theorem dX7_without_51 : decode cX7_without 51 = .ok (.iconst 1, 1) := by decide +kernel
theorem dX7_without_52 : decode cX7_without 52 = .ok (.iload_n 1, 1) := by decide +kernel
theorem dX7_without_53 : decode cX7_without 53 = .ok (.ishl, 1) := by decide +kernel
theorem dX7_without_54 : decode cX7_without 54 = .ok (.iconst (-1), 1) := by decide +kernel
theorem dX7_without_55 : decode cX7_without 55 = .ok (.ixor, 1) := by decide +kernel
theorem dX7_without_56 : decode cX7_without 56 = .ok (.iand, 1) := by decide +kernel
theorem dX7_without_57 : decode cX7_without 57 = .ok (.invokevirtual 180, 3) := by decide +kernel
theorem dX7_without_60 : decode cX7_without 60 = .ok (.ireturn, 1) := by decide +kernel
theorem sp_X7_without {x y z : Int32} {S : St} {D : Mem} (h : INV1 D S) : Rix 21 j_X7_without [.ref 0, .int x, .int y, .int z] D (fun u D' => CK D (m_without S x y z) u D') := by
  refine E.start 0 (ls := [some (.ref 0), some (.int x), some (.int y), some (.int z)]) (by decide +kernel) (Nat.le_of_ble_eq_true rfl) rfl (Nat.le_refl _) (Nat.le_refl _) ?_
  have hcm := h.1.2.1.2.1
  refine X_aload_n (nx := 1) dX7_without_0 rfl rfl rfl ?_
  refine M_getP (nx := 4) dX7_without_1 rfl fl_RX7_10 rfl (by first | assumption | rfl | decide | omega) (by first | assumption | rfl | decide | omega) (by first | assumption | rfl | decide | omega) ?_
  refine X_iload_n (nx := 5) dX7_without_4 rfl rfl rfl ?_
  refine Y_Vi1 (nx := 8) dX7_without_5 rfl ml_RX7_103 kj_X0_isThere kv_X0_isThere (sp_X0_isThere (Or.inl rfl) h.1.1) (by first | assumption | rfl | decide | omega) (by first | assumption | rfl | decide | omega) (by decide) rfl (by first | decide | omega) (by exact Nat.le_of_ble_eq_true rfl) ?_
  refine X_if_eq (tgt := 18) (nx := 11) dX7_without_8 rfl rfl (fun h8 => ?_) (fun h8 => ?_)
  · skip
    have n8 := nb h8
    refine X_aload_n (nx := 19) dX7_without_18 rfl rfl rfl ?_
    refine X_iconst (v := -1) (nx := 20) dX7_without_19 rfl rfl ?_
    refine Y_Vi1 (nx := 23) dX7_without_20 rfl ml_RX7_51 kj_X7_refuse kv_X7_refuse (sp_X7_refuse (k := 1) rfl (by omega) (by omega)) (by first | assumption | rfl | decide | omega) (by first | assumption | rfl | decide | omega) (by decide) rfl (by first | decide | omega) (by exact Nat.le_of_ble_eq_true rfl) ?_
    exact Z_reti dX7_without_23 (Or.inl rfl) (by unfold m_without; first | (rw [if_neg n8]; exact ck_no (k := 1) h Fr.rf (by omega) (by omega)) | (rw [if_pos c8, if_neg n15]; exact ck_no (k := 1) h Fr.rf (by omega) (by omega)))
  · skip
    have c8 := b2i_t.mp h8
    obtain ⟨r, hr, rfl, tr⟩ := isTh_t hcm c8
    have k8 : (nI r).toNatClampNeg = r := nI_clamp (by omega)
    refine X_iload_n (nx := 12) dX7_without_11 rfl rfl rfl ?_
    refine Y_Si1 (nx := 15) dX7_without_12 rfl ml_RX7_167 kj_X7_isPath ks_X7_isPath (sp_X7_isPath) (by first | decide | omega) (by exact Nat.le_of_ble_eq_true rfl) ?_
    refine X_if_ne (tgt := 24) (nx := 18) dX7_without_15 rfl rfl (fun h15 => ?_) (fun h15 => ?_)
    · skip
      have c15 := b2i_t.mp h15
      obtain ⟨p, hp, rfl⟩ := ex_nI (N := 341) (n := 341) rfl (by decide) (of_decide_eq_true c15)
      have k15 : (nI p).toNatClampNeg = p := nI_clamp (by omega)
      refine X_iload_n (nx := 25) dX7_without_24 rfl rfl rfl ?_
      refine Y_Si1 (nx := 28) dX7_without_25 rfl ml_RX7_115 kj_X7_isVerb ks_X7_isVerb (sp_X7_isVerb) (by first | decide | omega) (by exact Nat.le_of_ble_eq_true rfl) ?_
      refine X_if_ne (tgt := 38) (nx := 31) dX7_without_28 rfl rfl (fun h28 => ?_) (fun h28 => ?_)
      · skip
        have c28 := b2i_t.mp h28
        obtain ⟨v, hv, rfl⟩ := ex_nI (N := 4) (n := 4) rfl (by decide) (of_decide_eq_true c28)
        have k28 : (nI v).toNatClampNeg = v := nI_clamp (by omega)
        refine X_aload_n (nx := 39) dX7_without_38 rfl rfl rfl ?_
        refine M_getP (nx := 42) dX7_without_39 rfl fl_RX7_25 rfl (by first | assumption | rfl | decide | omega) (by first | assumption | rfl | decide | omega) (by first | assumption | rfl | decide | omega) ?_
        refine X_iload_n (nx := 43) dX7_without_42 rfl rfl rfl ?_
        refine X_iload_n (nx := 44) dX7_without_43 rfl rfl rfl ?_
        refine X_aload_n (nx := 45) dX7_without_44 rfl rfl rfl ?_
        refine M_getP (nx := 48) dX7_without_45 rfl fl_RX7_10 rfl (by first | assumption | rfl | decide | omega) (by first | assumption | rfl | decide | omega) (by first | assumption | rfl | decide | omega) ?_
        refine Y_Vi0 (nx := 51) dX7_without_48 rfl ml_RX7_125 kj_X0_thereBits kv_X0_thereBits (sp_X0_thereBits (Or.inl rfl) h.1.1) (by first | assumption | rfl | decide | omega) (by first | assumption | rfl | decide | omega) (by decide) rfl (by first | decide | omega) (by exact Nat.le_of_ble_eq_true rfl) ?_
        refine X_iconst (v := 1) (nx := 52) dX7_without_51 rfl rfl ?_
        refine X_iload_n (nx := 53) dX7_without_52 rfl rfl rfl ?_
        refine X_ishl (nx := 54) dX7_without_53 rfl ?_
        refine X_iconst (v := -1) (nx := 55) dX7_without_54 rfl rfl ?_
        refine X_ixor (nx := 56) dX7_without_55 rfl ?_
        refine X_iand (nx := 57) dX7_without_56 rfl ?_
        refine X_top (wo_eq (by omega)) ?_
        refine Z_Vi3 (nx := 60) dX7_without_57 rfl ml_RX7_180 kj_X6_bring kv_X6_bring (sp_X6_bring h rfl hp rfl hv rfl (mkn_lt _ 10)) (by first | assumption | rfl | decide | omega) (by first | assumption | rfl | decide | omega) (by decide) rfl (by first | decide | omega) (by exact Nat.le_of_ble_eq_true rfl) (fun u57 D57 g57 => ?_)
        exact Z_reti dX7_without_60 (Or.inl rfl) (by unfold m_without; rw [if_pos c8, if_pos c15, if_pos c28, k8, k15, k28]; exact ck_s g57.2.2.2.1 g57.1 g57.2.1.sc)
      · skip
        have n28 := nb h28
        refine X_aload_n (nx := 32) dX7_without_31 rfl rfl rfl ?_
        refine X_bipush (v := -2) (nx := 34) dX7_without_32 rfl rfl ?_
        refine Y_Vi1 (nx := 37) dX7_without_34 rfl ml_RX7_51 kj_X7_refuse kv_X7_refuse (sp_X7_refuse (k := 2) rfl (by omega) (by omega)) (by first | assumption | rfl | decide | omega) (by first | assumption | rfl | decide | omega) (by decide) rfl (by first | decide | omega) (by exact Nat.le_of_ble_eq_true rfl) ?_
        exact Z_reti dX7_without_37 (Or.inl rfl) (by unfold m_without; rw [if_pos c8, if_pos c15, if_neg n28]; exact ck_no (k := 2) h Fr.rf (by omega) (by omega))
    · skip
      have n15 := nb h15
      refine X_aload_n (nx := 19) dX7_without_18 rfl rfl rfl ?_
      refine X_iconst (v := -1) (nx := 20) dX7_without_19 rfl rfl ?_
      refine Y_Vi1 (nx := 23) dX7_without_20 rfl ml_RX7_51 kj_X7_refuse kv_X7_refuse (sp_X7_refuse (k := 1) rfl (by omega) (by omega)) (by first | assumption | rfl | decide | omega) (by first | assumption | rfl | decide | omega) (by decide) rfl (by first | decide | omega) (by exact Nat.le_of_ble_eq_true rfl) ?_
      exact Z_reti dX7_without_23 (Or.inl rfl) (by unfold m_without; first | (rw [if_neg n8]; exact ck_no (k := 1) h Fr.rf (by omega) (by omega)) | (rw [if_pos c8, if_neg n15]; exact ck_no (k := 1) h Fr.rf (by omega) (by omega)))
