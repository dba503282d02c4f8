/-! CONSTRUCTORS: the empty trie -/
def emZ (D : Mem) (i : Nat) : Mem := fun b j => if b = 82 ∧ j < i then nI j else if b = 81 ∧ j < 7 * i then -9 else if b = 80 ∧ j = 11 then nI i else if b = 91 ∧ j < i then -9 else D b j
theorem emZ_0 {D : Mem} : up2 D 80 11 0 = emZ D 0 := by
  funext b j
  simp only [up2, emZ]
  repeat' split
  all_goals first | rfl | (exfalso; omega)
theorem emZ_s {D : Mem} (hz : ∀ b, 80 ≤ b → b ≤ 91 → D b = fun _ => 0) {i : Nat} : up2 (up2 (adZ (ad5Z (emZ D i) i (nI i)) i 7) 80 11 (nI (i + 1))) 91 i (-9) = emZ D (i + 1) := by
  funext b j
  simp only [up2, adZ, ad5Z, emZ]
  have hb : b = 80 ∨ b = 81 ∨ b = 82 ∨ b = 83 ∨ b = 84 ∨ b = 85 ∨ b = 86 ∨ b = 91 ∨ (b ≠ 80 ∧ b ≠ 81 ∧ b ≠ 82 ∧ b ≠ 83 ∧ b ≠ 84 ∧ b ≠ 85 ∧ b ≠ 86 ∧ b ≠ 91) := by omega
  rcases hb with e | e | e | e | e | e | e | e | ⟨e0, e1, e2, e3, e4, e5, e6, e7⟩
  · subst e
    simp
    repeat' split
    all_goals rfl
  · subst e
    simp
    repeat' split
    all_goals first | rfl | (exfalso; omega)
  · subst e
    simp
    repeat' split
    all_goals first | rfl | (exfalso; omega) | (have e : i = j := (by omega)
                                                rw [e])
  · subst e
    simp
    intro _
    exact (congrFun (hz _ (by omega) (by omega)) j).symm
  · subst e
    simp
    intro _
    exact (congrFun (hz _ (by omega) (by omega)) j).symm
  · subst e
    simp
    intro _
    exact (congrFun (hz _ (by omega) (by omega)) j).symm
  · subst e
    simp
    intro _
    exact (congrFun (hz _ (by omega) (by omega)) j).symm
  · subst e
    simp
    repeat' split
    all_goals first | rfl | (exfalso; omega)
  · simp [e0, e1, e2, e3, e4, e5, e6, e7]
theorem emZ_88 {D : Mem} (hz : ∀ b, 80 ≤ b → b ≤ 91 → D b = fun _ => 0) {i j : Nat} : emZ D i 88 j = 0 := by
  have h := congrFun (hz 88 (by omega) (by omega)) j
  simp only [emZ]
  repeat' split
  all_goals first | exact h | (exfalso; omega)
theorem lp_emZ2 {P : Ptr} {D : Mem} (hP : ∀ i, P 80 i = P0 80 i) (hz : ∀ b, 80 ≤ b → b ≤ 91 → D b = fun _ => 0) : ∀ (m : Nat) (i : Nat), i + m = 4 → X 3 92 j_X5_empty 36 [some (.ref 80), some (.int (nI i))] [] (92, P, emZ D 3) (fun vs σ' => vs = [] ∧ σ' = (92, P, emZ D 3)) := by
  intro m
  induction m with
  | zero =>
    intro i hi
    refine X_iload_n (nx := 37) dX5_empty_36 rfl rfl rfl ?_
    refine X_iconst (v := nI 4) (nx := 38) dX5_empty_37 rfl rfl ?_
    refine X_icmp_ge (tgt := 56) (nx := 41) dX5_empty_38 rfl rfl (fun h38 => ?_) (fun h38 => ?_)
    · skip
      exact X_ret ⟨rfl, dX5_empty_56⟩ rfl ⟨rfl, rfl⟩
    · exact absurd h38 (fun q => q (nI_le (by omega) (by omega)))
  | succ m ih =>
    intro i hi
    refine X_iload_n (nx := 37) dX5_empty_36 rfl rfl rfl ?_
    refine X_iconst (v := nI 4) (nx := 38) dX5_empty_37 rfl rfl ?_
    refine X_icmp_ge (tgt := 56) (nx := 41) dX5_empty_38 rfl rfl (fun h38 => ?_) (fun h38 => ?_)
    · exact absurd h38 (nI_ge (by omega) (by omega))
    · skip
      refine X_aload_n (nx := 42) dX5_empty_41 rfl rfl rfl ?_
      refine X_getP (nx := 45) dX5_empty_42 rfl fl_RX5_33 rfl (show P 80 7 = some 88 from hP 7) (by first | assumption | rfl | (show (_ : Nat) < 92; omega) | decide | omega) (by first | assumption | rfl | (show (_ : Nat) < 92; omega) | decide | omega) ?_
      refine X_iload_n (nx := 46) dX5_empty_45 rfl rfl rfl ?_
      refine X_iconst (v := 0) (nx := 47) dX5_empty_46 rfl rfl ?_
      refine X_callS (As := [.ref 88, .int (nI i), .int (0)]) (rest := []) (k' := 92) (nx := 50) dX5_empty_47 rfl ml_RX5_56 kj_X7_put ks_X7_put (sp_put0 (P := P) (by decide) rfl (show i < 4 by omega) (by decide) rfl (by decide)) rfl (by decide) rfl (Nat.le_of_ble_eq_true rfl) (Nat.le_refl _) (Nat.le_refl _) (Or.inl rfl) (fun vs47 σ47 g47 => ?_)
      obtain ⟨e47, f47⟩ := g47
      subst e47; subst f47
      refine X_iinc (nx := 53) dX5_empty_50 rfl (by decide) rfl (by first | exact ii1 _ | rfl) rfl (st_s (st_0)) ?_
      refine X_goto (tgt := 36) dX5_empty_53 rfl ?_
      rw [up2_id (emZ_88 hz)]
      exact ih (i + 1) (by omega)
theorem lp_emZ1 {P : Ptr} {D : Mem} (hP : ∀ i, P 80 i = P0 80 i) (hz : ∀ b, 80 ≤ b → b ≤ 91 → D b = fun _ => 0) : ∀ (m : Nat) (i : Nat), i + m = 3 → X 3 92 j_X5_empty 7 [some (.ref 80), some (.int (nI i))] [] (92, P, emZ D i) (fun vs σ' => vs = [] ∧ σ' = (92, P, emZ D 3)) := by
  intro m
  induction m with
  | zero =>
    intro i hi
    refine X_iload_n (nx := 8) dX5_empty_7 rfl rfl rfl ?_
    refine X_iconst (v := nI 3) (nx := 9) dX5_empty_8 rfl rfl ?_
    refine X_icmp_ge (tgt := 34) (nx := 12) dX5_empty_9 rfl rfl (fun h9 => ?_) (fun h9 => ?_)
    · skip
      refine X_iconst (v := nI 0) (nx := 35) dX5_empty_34 rfl rfl ?_
      refine X_istore_n (i := 1) (nx := 36) dX5_empty_35 rfl rfl (by decide) rfl (st_s (st_0)) ?_
      obtain rfl : i = 3 := (by omega)
      exact lp_emZ2 hP hz 4 0 rfl
    · exact absurd h9 (fun q => q (nI_le (by omega) (by omega)))
  | succ m ih =>
    intro i hi
    have e80 : emZ D i 80 11 = nI i := (by unfold emZ; rw [if_neg (by omega), if_neg (by omega), if_pos ⟨rfl, rfl⟩])
    refine X_iload_n (nx := 8) dX5_empty_7 rfl rfl rfl ?_
    refine X_iconst (v := nI 3) (nx := 9) dX5_empty_8 rfl rfl ?_
    refine X_icmp_ge (tgt := 34) (nx := 12) dX5_empty_9 rfl rfl (fun h9 => ?_) (fun h9 => ?_)
    · exact absurd h9 (nI_ge (by omega) (by omega))
    · skip
      refine X_aload_n (nx := 13) dX5_empty_12 rfl rfl rfl ?_
      refine X_iload_n (nx := 14) dX5_empty_13 rfl rfl rfl ?_
      refine X_callV (a := 80) (As := [.int (nI i)]) (rest := []) (k' := 92) (nx := 17) dX5_empty_14 rfl ml_RX5_52 kj_X5_addNode kv_X5_addNode (by show 80 < 92; decide) rfl (by decide) rfl (sp_addNode0 hP e80 (by omega)) rfl (by decide) rfl (Nat.le_of_ble_eq_true rfl) (Nat.le_refl _) (Nat.le_refl _) (Or.inl rfl) (fun vs14 σ14 g14 => ?_)
      obtain ⟨e14, f14⟩ := g14
      subst e14; subst f14
      refine X_pop (nx := 18) dX5_empty_17 rfl rfl ?_
      refine X_aload_n (nx := 19) dX5_empty_18 rfl rfl rfl ?_
      refine X_getP (nx := 22) dX5_empty_19 rfl fl_RX5_42 rfl (show P 80 10 = some 91 from hP 10) (by first | assumption | rfl | (show (_ : Nat) < 92; omega) | decide | omega) (by first | assumption | rfl | (show (_ : Nat) < 92; omega) | decide | omega) ?_
      refine X_iload_n (nx := 23) dX5_empty_22 rfl rfl rfl ?_
      refine X_bipush (v := -9) (nx := 25) dX5_empty_23 rfl rfl ?_
      refine X_callS (As := [.ref 91, .int (nI i), .int (-9)]) (rest := []) (k' := 92) (nx := 28) dX5_empty_25 rfl ml_RX5_56 kj_X7_put ks_X7_put (sp_put0 (P := P) (by decide) rfl (show i < 3 by omega) (by decide) rfl (by decide)) rfl (by decide) rfl (Nat.le_of_ble_eq_true rfl) (Nat.le_refl _) (Nat.le_refl _) (Or.inl rfl) (fun vs25 σ25 g25 => ?_)
      obtain ⟨e25, f25⟩ := g25
      subst e25; subst f25
      refine X_iinc (nx := 31) dX5_empty_28 rfl (by decide) rfl (by first | exact ii1 _ | rfl) rfl (st_s (st_0)) ?_
      refine X_goto (tgt := 7) dX5_empty_31 rfl ?_
      rw [emZ_s hz]
      exact ih (i + 1) (by omega)
theorem sp_empty0 {P : Ptr} {D : Mem} (hP : ∀ i, P 80 i = P0 80 i) (hz : ∀ b, 80 ≤ b → b ≤ 91 → D b = fun _ => 0) : E 3 92 j_X5_empty [.ref 80] (92, P, D) (fun vs σ' => vs = [] ∧ σ' = (92, P, emZ D 3)) := by
  refine E.start 1 (ls := [some (.ref 80), none]) (by decide +kernel) (Nat.le_of_ble_eq_true rfl) rfl (Nat.le_of_ble_eq_true rfl) (by decide) ?_
  refine X_aload_n (nx := 1) dX5_empty_0 rfl rfl rfl ?_
  refine X_iconst (v := 0) (nx := 2) dX5_empty_1 rfl rfl ?_
  refine X_putI (nx := 5) dX5_empty_2 rfl fl_RX5_48 rfl rfl (by first | assumption | rfl | (show (_ : Nat) < 92; omega) | decide | omega) (by first | assumption | rfl | (show (_ : Nat) < 92; omega) | decide | omega) ?_
  refine X_iconst (v := nI 0) (nx := 6) dX5_empty_5 rfl rfl ?_
  refine X_istore_n (i := 1) (nx := 7) dX5_empty_6 rfl rfl (by decide) rfl (st_s (st_0)) ?_
  rw [emZ_0]
  exact lp_emZ1 hP hz 3 0 rfl
theorem dX5_init_0 : decode cX5_init 0 = .ok (.aload_n 0, 1) := by decide +kernel
theorem dX5_init_1 : decode cX5_init 1 = .ok (.invokespecial 3, 3) := by decide +kernel
theorem dX5_init_4 : decode cX5_init 4 = .ok (.aload_n 0, 1) := by decide +kernel
theorem dX5_init_5 : decode cX5_init 5 = .ok (.sipush 301, 3) := by decide +kernel
theorem dX5_init_8 : decode cX5_init 8 = .ok (.newarray .int, 2) := by decide +kernel
theorem dX5_init_10 : decode cX5_init 10 = .ok (.putfield 11, 3) := by decide +kernel
theorem dX5_init_13 : decode cX5_init 13 = .ok (.aload_n 0, 1) := by decide +kernel
theorem dX5_init_14 : decode cX5_init 14 = .ok (.bipush 43, 2) := by decide +kernel
theorem dX5_init_16 : decode cX5_init 16 = .ok (.newarray .int, 2) := by decide +kernel
theorem dX5_init_18 : decode cX5_init 18 = .ok (.putfield 15, 3) := by decide +kernel
theorem dX5_init_21 : decode cX5_init 21 = .ok (.aload_n 0, 1) := by decide +kernel
theorem dX5_init_22 : decode cX5_init 22 = .ok (.bipush 43, 2) := by decide +kernel
theorem dX5_init_24 : decode cX5_init 24 = .ok (.newarray .int, 2) := by decide +kernel
theorem dX5_init_26 : decode cX5_init 26 = .ok (.putfield 18, 3) := by decide +kernel
theorem dX5_init_29 : decode cX5_init 29 = .ok (.aload_n 0, 1) := by decide +kernel
theorem dX5_init_30 : decode cX5_init 30 = .ok (.bipush 43, 2) := by decide +kernel
theorem dX5_init_32 : decode cX5_init 32 = .ok (.newarray .int, 2) := by decide +kernel
theorem dX5_init_34 : decode cX5_init 34 = .ok (.putfield 21, 3) := by decide +kernel
theorem dX5_init_37 : decode cX5_init 37 = .ok (.aload_n 0, 1) := by decide +kernel
theorem dX5_init_38 : decode cX5_init 38 = .ok (.bipush 43, 2) := by decide +kernel
theorem dX5_init_40 : decode cX5_init 40 = .ok (.newarray .int, 2) := by decide +kernel
theorem dX5_init_42 : decode cX5_init 42 = .ok (.putfield 24, 3) := by decide +kernel
theorem dX5_init_45 : decode cX5_init 45 = .ok (.aload_n 0, 1) := by decide +kernel
theorem dX5_init_46 : decode cX5_init 46 = .ok (.bipush 43, 2) := by decide +kernel
theorem dX5_init_48 : decode cX5_init 48 = .ok (.newarray .int, 2) := by decide +kernel
theorem dX5_init_50 : decode cX5_init 50 = .ok (.putfield 27, 3) := by decide +kernel
theorem dX5_init_53 : decode cX5_init 53 = .ok (.aload_n 0, 1) := by decide +kernel
theorem dX5_init_54 : decode cX5_init 54 = .ok (.bipush 10, 2) := by decide +kernel
theorem dX5_init_56 : decode cX5_init 56 = .ok (.newarray .int, 2) := by decide +kernel
theorem dX5_init_58 : decode cX5_init 58 = .ok (.putfield 30, 3) := by decide +kernel
theorem dX5_init_61 : decode cX5_init 61 = .ok (.aload_n 0, 1) := by decide +kernel
theorem dX5_init_62 : decode cX5_init 62 = .ok (.iconst 4, 1) := by decide +kernel
theorem dX5_init_63 : decode cX5_init 63 = .ok (.newarray .int, 2) := by decide +kernel
theorem dX5_init_65 : decode cX5_init 65 = .ok (.putfield 33, 3) := by decide +kernel
theorem dX5_init_68 : decode cX5_init 68 = .ok (.aload_n 0, 1) := by decide +kernel
theorem dX5_init_69 : decode cX5_init 69 = .ok (.iconst 3, 1) := by decide +kernel
theorem dX5_init_70 : decode cX5_init 70 = .ok (.newarray .int, 2) := by decide +kernel
theorem dX5_init_72 : decode cX5_init 72 = .ok (.putfield 36, 3) := by decide +kernel
theorem dX5_init_75 : decode cX5_init 75 = .ok (.aload_n 0, 1) := by decide +kernel
theorem dX5_init_76 : decode cX5_init 76 = .ok (.iconst 3, 1) := by decide +kernel
theorem dX5_init_77 : decode cX5_init 77 = .ok (.newarray .int, 2) := by decide +kernel
theorem dX5_init_79 : decode cX5_init 79 = .ok (.putfield 39, 3) := by decide +kernel
theorem dX5_init_82 : decode cX5_init 82 = .ok (.aload_n 0, 1) := by decide +kernel
theorem dX5_init_83 : decode cX5_init 83 = .ok (.iconst 3, 1) := by decide +kernel
theorem dX5_init_84 : decode cX5_init 84 = .ok (.newarray .int, 2) := by decide +kernel
theorem dX5_init_86 : decode cX5_init 86 = .ok (.putfield 42, 3) := by decide +kernel
theorem dX5_init_89 : decode cX5_init 89 = .ok (.aload_n 0, 1) := by decide +kernel
theorem dX5_init_90 : decode cX5_init 90 = .ok (.invokevirtual 45, 3) := by decide +kernel
theorem dX5_init_93 : decode cX5_init 93 = .ok (.return_, 1) := by decide +kernel
theorem sp_X5_init {σ : Wd} (h : NEWC 80 σ) : E 4 92 j_X5_init [.ref 80] σ (fun vs σ' => vs = [] ∧ CON IM P0 80 92 σ σ') := by
  refine E.start 0 (ls := [some (.ref 80)]) (by decide +kernel) (Nat.le_of_ble_eq_true rfl) rfl (by rw [h.1]; omega) (by omega) ?_
  have h0 := h.pg (I := fun _ _ => 0) (Tp := P0)
  refine X_aload_n (nx := 1) dX5_init_0 rfl rfl rfl ?_
  refine X_objInit (nx := 4) dX5_init_1 rfl ml_RX5_3 oi_1 oi_2 (by decide) (by decide) ?_
  refine X_aload_n (nx := 5) dX5_init_4 rfl rfl rfl ?_
  refine X_sipush (v := 301) (nx := 8) dX5_init_5 rfl rfl ?_
  refine C_arr (L := 301) h0 dX5_init_8 rfl dX5_init_10 rfl (by decide) (by decide) rfl (by decide) (by omega) cf_X5 (by decide) (bg_in 118 (by decide +kernel) rfl) rfl rfl (by decide) rfl rfl (p0_nil rfl) (rfl) (ok_r (by omega) (fun v hv => absurd hv List.not_mem_nil)) (by omega) (fun σ1 h1 => ?_)
  refine X_aload_n (nx := 14) dX5_init_13 rfl rfl rfl ?_
  refine X_bipush (v := 43) (nx := 16) dX5_init_14 rfl rfl ?_
  refine C_arr (L := 43) h1 dX5_init_16 rfl dX5_init_18 rfl (by decide) (by decide) rfl (by decide) (by omega) cf_X5 (by decide) (bg_in 119 (by decide +kernel) rfl) rfl rfl (by decide) rfl rfl (p0_nil rfl) (rfl) (ok_r (by omega) (fun v hv => absurd hv List.not_mem_nil)) (by omega) (fun σ2 h2 => ?_)
  refine X_aload_n (nx := 22) dX5_init_21 rfl rfl rfl ?_
  refine X_bipush (v := 43) (nx := 24) dX5_init_22 rfl rfl ?_
  refine C_arr (L := 43) h2 dX5_init_24 rfl dX5_init_26 rfl (by decide) (by decide) rfl (by decide) (by omega) cf_X5 (by decide) (bg_in 121 (by decide +kernel) rfl) rfl rfl (by decide) rfl rfl (p0_nil rfl) (rfl) (ok_r (by omega) (fun v hv => absurd hv List.not_mem_nil)) (by omega) (fun σ3 h3 => ?_)
  refine X_aload_n (nx := 30) dX5_init_29 rfl rfl rfl ?_
  refine X_bipush (v := 43) (nx := 32) dX5_init_30 rfl rfl ?_
  refine C_arr (L := 43) h3 dX5_init_32 rfl dX5_init_34 rfl (by decide) (by decide) rfl (by decide) (by omega) cf_X5 (by decide) (bg_in 122 (by decide +kernel) rfl) rfl rfl (by decide) rfl rfl (p0_nil rfl) (rfl) (ok_r (by omega) (fun v hv => absurd hv List.not_mem_nil)) (by omega) (fun σ4 h4 => ?_)
  refine X_aload_n (nx := 38) dX5_init_37 rfl rfl rfl ?_
  refine X_bipush (v := 43) (nx := 40) dX5_init_38 rfl rfl ?_
  refine C_arr (L := 43) h4 dX5_init_40 rfl dX5_init_42 rfl (by decide) (by decide) rfl (by decide) (by omega) cf_X5 (by decide) (bg_in 124 (by decide +kernel) rfl) rfl rfl (by decide) rfl rfl (p0_nil rfl) (rfl) (ok_r (by omega) (fun v hv => absurd hv List.not_mem_nil)) (by omega) (fun σ5 h5 => ?_)
  refine X_aload_n (nx := 46) dX5_init_45 rfl rfl rfl ?_
  refine X_bipush (v := 43) (nx := 48) dX5_init_46 rfl rfl ?_
  refine C_arr (L := 43) h5 dX5_init_48 rfl dX5_init_50 rfl (by decide) (by decide) rfl (by decide) (by omega) cf_X5 (by decide) (bg_in 126 (by decide +kernel) rfl) rfl rfl (by decide) rfl rfl (p0_nil rfl) (rfl) (ok_r (by omega) (fun v hv => absurd hv List.not_mem_nil)) (by omega) (fun σ6 h6 => ?_)
  refine X_aload_n (nx := 54) dX5_init_53 rfl rfl rfl ?_
  refine X_bipush (v := 10) (nx := 56) dX5_init_54 rfl rfl ?_
  refine C_arr (L := 10) h6 dX5_init_56 rfl dX5_init_58 rfl (by decide) (by decide) rfl (by decide) (by omega) cf_X5 (by decide) (bg_in 128 (by decide +kernel) rfl) rfl rfl (by decide) rfl rfl (p0_nil rfl) (rfl) (ok_r (by omega) (fun v hv => absurd hv List.not_mem_nil)) (by omega) (fun σ7 h7 => ?_)
  refine X_aload_n (nx := 62) dX5_init_61 rfl rfl rfl ?_
  refine X_iconst (v := 4) (nx := 63) dX5_init_62 rfl rfl ?_
  refine C_arr (L := 4) h7 dX5_init_63 rfl dX5_init_65 rfl (by decide) (by decide) rfl (by decide) (by omega) cf_X5 (by decide) (bg_in 130 (by decide +kernel) rfl) rfl rfl (by decide) rfl rfl (p0_nil rfl) (rfl) (ok_r (by omega) (fun v hv => absurd hv List.not_mem_nil)) (by omega) (fun σ8 h8 => ?_)
  refine X_aload_n (nx := 69) dX5_init_68 rfl rfl rfl ?_
  refine X_iconst (v := 3) (nx := 70) dX5_init_69 rfl rfl ?_
  refine C_arr (L := 3) h8 dX5_init_70 rfl dX5_init_72 rfl (by decide) (by decide) rfl (by decide) (by omega) cf_X5 (by decide) (bg_in 132 (by decide +kernel) rfl) rfl rfl (by decide) rfl rfl (p0_nil rfl) (rfl) (ok_r (by omega) (fun v hv => absurd hv List.not_mem_nil)) (by omega) (fun σ9 h9 => ?_)
  refine X_aload_n (nx := 76) dX5_init_75 rfl rfl rfl ?_
  refine X_iconst (v := 3) (nx := 77) dX5_init_76 rfl rfl ?_
  refine C_arr (L := 3) h9 dX5_init_77 rfl dX5_init_79 rfl (by decide) (by decide) rfl (by decide) (by omega) cf_X5 (by decide) (bg_in 135 (by decide +kernel) rfl) rfl rfl (by decide) rfl rfl (p0_nil rfl) (rfl) (ok_r (by omega) (fun v hv => absurd hv List.not_mem_nil)) (by omega) (fun σ10 h10 => ?_)
  refine X_aload_n (nx := 83) dX5_init_82 rfl rfl rfl ?_
  refine X_iconst (v := 3) (nx := 84) dX5_init_83 rfl rfl ?_
  refine C_arr (L := 3) h10 dX5_init_84 rfl dX5_init_86 rfl (by decide) (by decide) rfl (by decide) (by omega) cf_X5 (by decide) (bg_in 138 (by decide +kernel) rfl) rfl rfl (by decide) rfl rfl (p0_nil rfl) (rfl) (ok_r (by omega) (fun v hv => absurd hv List.not_mem_nil)) (by omega) (fun σ11 h11 => ?_)
  obtain ⟨n, P, D⟩ := σ11
  obtain ⟨k1, k2, k3, k4, k5, k6⟩ := h11
  have e92 : n = 92 := k1
  subst e92
  have hP : ∀ i, P 80 i = P0 80 i := fun i => (k3 i).trans (by
    by_cases q : i < 11
    · exact if_pos q
    · exact (if_neg q).trans (gd_none (l := ptT.getD 80 []) (K := 11) rfl i (by omega)).symm)
  have hz : ∀ b, 80 ≤ b → b ≤ 91 → D b = fun _ => 0 := fun b x y => by
    by_cases q : b = 80
    · subst q; exact k4
    · exact (k5 b (by omega) (by omega)).2
  refine X_aload_n (nx := 90) dX5_init_89 rfl rfl rfl ?_
  refine X_callV (a := 80) (As := []) (rest := []) (k' := 92) (nx := 93) dX5_init_90 rfl ml_RX5_45 kj_X5_empty kv_X5_empty (by show 80 < 92; decide) rfl (by decide) rfl (sp_empty0 hP hz) rfl (by decide) rfl (Nat.le_of_ble_eq_true rfl) (Nat.le_refl _) (Nat.le_refl _) (Or.inl rfl) (fun vs σ1 g => ?_)
  obtain ⟨g1, g2⟩ := g
  subst g1; subst g2
  refine X_ret ⟨rfl, dX5_init_93⟩ rfl ⟨rfl, rfl, fun b hb => ⟨(k2 b hb).1, (funext fun j => ?_)⟩, fun b x y => ⟨?_, funext fun j => ?_⟩, fun b hb => ⟨(k6 b hb).1, (funext fun j => ?_)⟩⟩
  · have := congrFun (k2 b hb).2 j
    show emZ D 3 b j = _
    unfold emZ
    rw [if_neg (by omega), if_neg (by omega), if_neg (by omega), if_neg (by omega)]; exact this
  · by_cases q : b = 80
    · subst q; exact funext hP
    · exact (k5 b (by omega) y).1
  · have hzb := congrFun (hz b x (by omega)) j
    have hl : ¬ (lay b).1 = 3 := (by
      have : ∀ b, b < 92 → 80 ≤ b → ¬ (lay b).1 = 3 := (by decide)
      exact this b y x)
    show emZ D 3 b j = IM b j
    unfold emZ IM
    rw [if_neg (fun (w : b < 104 ∧ (lay b).1 = 3 ∧ (j = 4 ∨ j = 5)) => hl w.2.1)]
    repeat' split
    all_goals first
      | rfl
      | exact hzb
      | (exfalso; omega)
  · have := congrFun (k6 b hb).2 j
    show emZ D 3 b j = _
    unfold emZ
    rw [if_neg (by omega), if_neg (by omega), if_neg (by omega), if_neg (by omega)]; exact this
