/-! WITNESS, CLASH, BOUND, LOTS -/
def tkR (S : St) (r p : Nat) : Bool := tkB (sg_ (bk S) r) (mtB (bk S) r) (pathL p)
def m_witness (S : St) (x y : Int32) : Int32 × St :=
  if isTh (bk S) x = true ∧ isTh (bk S) y = true ∧ ¬ x = y then (opI (fst_ (fun p => tkR S x.toNatClampNeg p && tkR S y.toNatClampNeg p) 0 341), S) else no_ S 1
theorem dX7_witness_0 : decode cX7_witness 0 = .ok (.aload_n 0, 1) := by decide +kernel
theorem dX7_witness_1 : decode cX7_witness 1 = .ok (.getfield 10, 3) := by decide +kernel
theorem dX7_witness_4 : decode cX7_witness 4 = .ok (.iload_n 1, 1) := by decide +kernel
theorem dX7_witness_5 : decode cX7_witness 5 = .ok (.invokevirtual 103, 3) := by decide +kernel
theorem dX7_witness_8 : decode cX7_witness 8 = .ok (.ifCond .eq 19, 3) := by decide +kernel
theorem dX7_witness_11 : decode cX7_witness 11 = .ok (.aload_n 0, 1) := by decide +kernel
theorem dX7_witness_12 : decode cX7_witness 12 = .ok (.getfield 10, 3) := by decide +kernel
theorem dX7_witness_15 : decode cX7_witness 15 = .ok (.iload_n 2, 1) := by decide +kernel
theorem dX7_witness_16 : decode cX7_witness 16 = .ok (.invokevirtual 103, 3) := by decide +kernel
theorem dX7_witness_19 : decode cX7_witness 19 = .ok (.ifCond .eq 8, 3) := by decide +kernel
theorem dX7_witness_22 : decode cX7_witness 22 = .ok (.iload_n 1, 1) := by decide +kernel
theorem dX7_witness_23 : decode cX7_witness 23 = .ok (.iload_n 2, 1) := by decide +kernel
theorem dX7_witness_24 : decode cX7_witness 24 = .ok (.if_icmp .ne 9, 3) := by decide +kernel
theorem dX7_witness_27 : decode cX7_witness 27 = .ok (.aload_n 0, 1) := by decide +kernel
theorem dX7_witness_28 : decode cX7_witness 28 = .ok (.iconst (-1), 1) := by decide +kernel
theorem dX7_witness_29 : decode cX7_witness 29 = .ok (.invokevirtual 51, 3) := by decide +kernel
theorem dX7_witness_32 : decode cX7_witness 32 = .ok (.ireturn, 1) := by decide +kernel
theorem dX7_witness_33 : decode cX7_witness 33 = .ok (.aload_n 0, 1) := by decide +kernel
theorem dX7_witness_34 : decode cX7_witness 34 = .ok (.getfield 10, 3) := by decide +kernel
theorem dX7_witness_37 : decode cX7_witness 37 = .ok (.iload_n 1, 1) := by decide +kernel
theorem dX7_witness_38 : decode cX7_witness 38 = .ok (.invokevirtual 106, 3) := by decide +kernel
theorem dX7_witness_41 : decode cX7_witness 41 = .ok (.astore_n 3, 1) := by decide +kernel
theorem dX7_witness_42 : decode cX7_witness 42 = .ok (.aload_n 0, 1) := by decide +kernel
theorem dX7_witness_43 : decode cX7_witness 43 = .ok (.getfield 10, 3) := by decide +kernel
theorem dX7_witness_46 : decode cX7_witness 46 = .ok (.iload_n 2, 1) := by decide +kernel
theorem dX7_witness_47 : decode cX7_witness 47 = .ok (.invokevirtual 106, 3) := by decide +kernel
theorem dX7_witness_50 : decode cX7_witness 50 = .ok (.astore 4, 2) := by decide +kernel
theorem dX7_witness_52 : decode cX7_witness 52 = .ok (.iconst 0, 1) := by decide +kernel
theorem dX7_witness_53 : decode cX7_witness 53 = .ok (.istore 5, 2) := by decide +kernel
theorem dX7_witness_55 : decode cX7_witness 55 = .ok (.iload 5, 2) := by decide +kernel
theorem dX7_witness_57 : decode cX7_witness 57 = .ok (.sipush 341, 3) := by decide +kernel
theorem dX7_witness_60 : decode cX7_witness 60 = .ok (.if_icmp .ge 53, 3) := by decide +kernel
theorem dX7_witness_63 : decode cX7_witness 63 = .ok (.iload 5, 2) := by decide +kernel
theorem dX7_witness_65 : decode cX7_witness 65 = .ok (.aload_n 0, 1) := by decide +kernel
theorem dX7_witness_66 : decode cX7_witness 66 = .ok (.getfield 25, 3) := by decide +kernel
theorem dX7_witness_69 : decode cX7_witness 69 = .ok (.getfield 170, 3) := by decide +kernel
theorem dX7_witness_72 : decode cX7_witness 72 = .ok (.invokestatic 173, 3) := by decide +kernel
theorem dX7_witness_75 : decode cX7_witness 75 = .ok (.aload_n 3, 1) := by decide +kernel
theorem dX7_witness_76 : decode cX7_witness 76 = .ok (.aload_n 0, 1) := by decide +kernel
theorem dX7_witness_77 : decode cX7_witness 77 = .ok (.getfield 25, 3) := by decide +kernel
theorem dX7_witness_80 : decode cX7_witness 80 = .ok (.getfield 170, 3) := by decide +kernel
theorem dX7_witness_83 : decode cX7_witness 83 = .ok (.invokevirtual 213, 3) := by decide +kernel
theorem dX7_witness_86 : decode cX7_witness 86 = .ok (.ifCond .eq 21, 3) := by decide +kernel
theorem dX7_witness_89 : decode cX7_witness 89 = .ok (.aload 4, 2) := by decide +kernel
theorem dX7_witness_91 : decode cX7_witness 91 = .ok (.aload_n 0, 1) := by decide +kernel
theorem dX7_witness_92 : decode cX7_witness 92 = .ok (.getfield 25, 3) := by decide +kernel
theorem dX7_witness_95 : decode cX7_witness 95 = .ok (.getfield 170, 3) := by decide +kernel
theorem dX7_witness_98 : decode cX7_witness 98 = .ok (.invokevirtual 213, 3) := by decide +kernel
theorem dX7_witness_101 : decode cX7_witness 101 = .ok (.ifCond .eq 6, 3) := by decide +kernel
theorem dX7_witness_104 : decode cX7_witness 104 = .ok (.iload 5, 2) := by decide +kernel
theorem dX7_witness_106 : decode cX7_witness 106 = .ok (.ireturn, 1) := by decide +kernel
theorem dX7_witness_107 : decode cX7_witness 107 = .ok (.iinc 5 1, 3) := by decide +kernel
theorem dX7_witness_110 : decode cX7_witness 110 = .ok (.goto (-55), 3) := by decide +kernel
theorem dX7_witness_113 : decode cX7_witness 113 = .ok (.bipush (-9), 2) := by decide +kernel
theorem dX7_witness_115 : decode cX7_witness 115 = .ok (.ireturn, 1) := by decide +kernel
theorem lp_witness {S : St} {D : Mem} {r o : Nat} (hr : r < cm_ (bk S)) (ho : o < cm_ (bk S)) : ∀ (m : Nat) (i : Nat) (D1 : Mem), i + m = 341 → INV1 D1 S → Fr inC D D1 → X 4 138 j_X7_witness 55 [some (.ref 0), some (.int (nI r)), some (.int (nI o)), some (.ref (rt 1 r)), some (.ref (rt 1 o)), some (.int (nI i))] [] (138, P0, D1) (fun x σ => ∃ (u : Int32) (D' : Mem), x = [.int u] ∧ σ = wd D' ∧ CK D (opI (fst_ (fun p => tkR S r p && tkR S o p) i m), S) u D') := by
  intro m
  induction m with
  | zero =>
    intro i D1 hi h hf
    have hcm := h.1.2.1.2.1
    refine X_iload (nx := 57) dX7_witness_55 rfl rfl ?_
    refine X_sipush (v := nI 341) (nx := 60) dX7_witness_57 rfl rfl ?_
    refine X_icmp_ge (tgt := 113) (nx := 63) dX7_witness_60 rfl rfl (fun h60 => ?_) (fun h60 => ?_)
    · skip
      refine X_bipush (v := -9) (nx := 115) dX7_witness_113 rfl rfl ?_
      exact Z_reti dX7_witness_115 (Or.inl rfl) (ck_s rfl h hf)
    · exact absurd h60 (fun q => q (nI_le (by omega) (by omega)))
  | succ m ih =>
    intro i D1 hi h hf
    have hcm := h.1.2.1.2.1
    refine X_iload (nx := 57) dX7_witness_55 rfl rfl ?_
    refine X_sipush (v := nI 341) (nx := 60) dX7_witness_57 rfl rfl ?_
    refine X_icmp_ge (tgt := 113) (nx := 63) dX7_witness_60 rfl rfl (fun h60 => ?_) (fun h60 => ?_)
    · exact absurd h60 (nI_ge (by omega) (by omega))
    · skip
      refine X_iload (nx := 65) dX7_witness_63 rfl rfl ?_
      refine X_aload_n (nx := 66) dX7_witness_65 rfl rfl rfl ?_
      refine M_getP (nx := 69) dX7_witness_66 rfl fl_RX7_25 rfl (by first | assumption | rfl | decide | omega) (by first | assumption | rfl | decide | omega) (by first | assumption | rfl | decide | omega) ?_
      refine M_getP (nx := 72) dX7_witness_69 rfl fl_RX7_170 rfl (by first | assumption | rfl | decide | omega) (by first | assumption | rfl | decide | omega) (by first | assumption | rfl | decide | omega) ?_
      refine Z_Sv2 (nx := 75) dX7_witness_72 rfl ml_RX7_173 kj_X1_read ks_X1_read (sp_X1_read (Or.inl rfl) rfl (by omega)) (by first | decide | omega) (by exact Nat.le_of_ble_eq_true rfl) (fun D72 g72 => ?_)
      have h0 := h
      have hi2 : INV1 D72 S := h.fr (g72.2.mono (fun b hb => by unfold inS; omega)) (by rw [g72.2 95 (by omega)])
      have hf2 : Fr inC D D72 := hf.tr (g72.2.mono (fun b hb => by unfold inC; omega))
      have h := hi2
      obtain ⟨r1r, r2r, r3r, r4r, r5r⟩ := h.1.1.2.2.2 r hr
      have hir := ((isB.facts (Or.inl rfl : isB 1)).2.2.2.2.2.2 r (by omega)).2
      have har : rt 1 r < 138 := hir.1
      have hcr : (lay (rt 1 r)).1 = 3 := hir.2
      obtain ⟨r1o, r2o, r3o, r4o, r5o⟩ := h.1.1.2.2.2 o ho
      have hio := ((isB.facts (Or.inl rfl : isB 1)).2.2.2.2.2.2 o (by omega)).2
      have hao : rt 1 o < 138 := hio.1
      have hco : (lay (rt 1 o)).1 = 3 := hio.2
      refine X_aload_n (nx := 76) dX7_witness_75 rfl rfl rfl ?_
      refine X_aload_n (nx := 77) dX7_witness_76 rfl rfl rfl ?_
      refine M_getP (nx := 80) dX7_witness_77 rfl fl_RX7_25 rfl (by first | assumption | rfl | decide | omega) (by first | assumption | rfl | decide | omega) (by first | assumption | rfl | decide | omega) ?_
      refine M_getP (nx := 83) dX7_witness_80 rfl fl_RX7_170 rfl (by first | assumption | rfl | decide | omega) (by first | assumption | rfl | decide | omega) (by first | assumption | rfl | decide | omega) ?_
      refine Y_Vi1 (nx := 86) dX7_witness_83 rfl ml_RX7_213 kj_X4_takes kv_X4_takes (sp_X4_takes hir (Or.inl rfl) r5r g72.1 (h.1.2.1.2.2 r hr).2.1 (show mtB (bk S) r = _ by rw [r4r]; rfl)) (by first | assumption | rfl | decide | omega) (by first | assumption | rfl | decide | omega) (by decide) rfl (by first | decide | omega) (by exact Nat.le_of_ble_eq_true rfl) ?_
      refine X_if_eq (tgt := 107) (nx := 89) dX7_witness_86 rfl rfl (fun h86 => ?_) (fun h86 => ?_)
      · skip
        refine X_iinc (nx := 110) dX7_witness_107 rfl (by decide) rfl (by first | exact ii1 _ | rfl) rfl (st_s (st_s (st_s (st_s (st_s (st_0)))))) ?_
        refine X_goto (tgt := 55) dX7_witness_110 rfl ?_
        first
          | (rw [fst_step (p := (fun p => tkR S r p && tkR S o p)) (by show (tkR S r i && tkR S o i) = false; rw [show tkR S r i = false from b2i_f.mp h86]; rfl)]; exact ih (i + 1) D72 (by omega) hi2 hf2)
          | (rw [fst_step (p := (fun p => tkR S r p && tkR S o p)) (by show (tkR S r i && tkR S o i) = false; rw [show tkR S o i = false from b2i_f.mp h101]; exact Bool.and_false _)]; exact ih (i + 1) D72 (by omega) hi2 hf2)
      · skip
        refine X_aload (nx := 91) dX7_witness_89 rfl rfl ?_
        refine X_aload_n (nx := 92) dX7_witness_91 rfl rfl rfl ?_
        refine M_getP (nx := 95) dX7_witness_92 rfl fl_RX7_25 rfl (by first | assumption | rfl | decide | omega) (by first | assumption | rfl | decide | omega) (by first | assumption | rfl | decide | omega) ?_
        refine M_getP (nx := 98) dX7_witness_95 rfl fl_RX7_170 rfl (by first | assumption | rfl | decide | omega) (by first | assumption | rfl | decide | omega) (by first | assumption | rfl | decide | omega) ?_
        refine Y_Vi1 (nx := 101) dX7_witness_98 rfl ml_RX7_213 kj_X4_takes kv_X4_takes (sp_X4_takes hio (Or.inl rfl) r5o g72.1 (h.1.2.1.2.2 o ho).2.1 (show mtB (bk S) o = _ by rw [r4o]; rfl)) (by first | assumption | rfl | decide | omega) (by first | assumption | rfl | decide | omega) (by decide) rfl (by first | decide | omega) (by exact Nat.le_of_ble_eq_true rfl) ?_
        refine X_if_eq (tgt := 107) (nx := 104) dX7_witness_101 rfl rfl (fun h101 => ?_) (fun h101 => ?_)
        · skip
          refine X_iinc (nx := 110) dX7_witness_107 rfl (by decide) rfl (by first | exact ii1 _ | rfl) rfl (st_s (st_s (st_s (st_s (st_s (st_0)))))) ?_
          refine X_goto (tgt := 55) dX7_witness_110 rfl ?_
          first
            | (rw [fst_step (p := (fun p => tkR S r p && tkR S o p)) (by show (tkR S r i && tkR S o i) = false; rw [show tkR S r i = false from b2i_f.mp h86]; rfl)]; exact ih (i + 1) D72 (by omega) hi2 hf2)
            | (rw [fst_step (p := (fun p => tkR S r p && tkR S o p)) (by show (tkR S r i && tkR S o i) = false; rw [show tkR S o i = false from b2i_f.mp h101]; exact Bool.and_false _)]; exact ih (i + 1) D72 (by omega) hi2 hf2)
        · skip
          refine X_iload (nx := 106) dX7_witness_104 rfl rfl ?_
          exact Z_reti dX7_witness_106 (Or.inl rfl) (by rw [fst_hit (p := (fun p => tkR S r p && tkR S o p)) (by show (tkR S r i && tkR S o i) = true; rw [show tkR S r i = true from b2i_t.mp h86, show tkR S o i = true from b2i_t.mp h101]; rfl)]; exact ck_s rfl hi2 hf2)
theorem sp_X7_witness {x y : Int32} {S : St} {D : Mem} (h : INV1 D S) : Rix 4 j_X7_witness [.ref 0, .int x, .int y] D (fun u D' => CK D (m_witness S x y) u D') := by
  refine E.start 3 (ls := [some (.ref 0), some (.int x), some (.int y), none, none, none]) (by decide +kernel) (Nat.le_of_ble_eq_true rfl) rfl (Nat.le_refl _) (Nat.le_refl _) ?_
  have hcm := h.1.2.1.2.1
  refine X_aload_n (nx := 1) dX7_witness_0 rfl rfl rfl ?_
  refine M_getP (nx := 4) dX7_witness_1 rfl fl_RX7_10 rfl (by first | assumption | rfl | decide | omega) (by first | assumption | rfl | decide | omega) (by first | assumption | rfl | decide | omega) ?_
  refine X_iload_n (nx := 5) dX7_witness_4 rfl rfl rfl ?_
  refine Y_Vi1 (nx := 8) dX7_witness_5 rfl ml_RX7_103 kj_X0_isThere kv_X0_isThere (sp_X0_isThere (Or.inl rfl) h.1.1) (by first | assumption | rfl | decide | omega) (by first | assumption | rfl | decide | omega) (by decide) rfl (by first | decide | omega) (by exact Nat.le_of_ble_eq_true rfl) ?_
  refine X_if_eq (tgt := 27) (nx := 11) dX7_witness_8 rfl rfl (fun h8 => ?_) (fun h8 => ?_)
  · skip
    have n8 := nb h8
    refine X_aload_n (nx := 28) dX7_witness_27 rfl rfl rfl ?_
    refine X_iconst (v := -1) (nx := 29) dX7_witness_28 rfl rfl ?_
    refine Y_Vi1 (nx := 32) dX7_witness_29 rfl ml_RX7_51 kj_X7_refuse kv_X7_refuse (sp_X7_refuse (k := 1) rfl (by omega) (by omega)) (by first | assumption | rfl | decide | omega) (by first | assumption | rfl | decide | omega) (by decide) rfl (by first | decide | omega) (by exact Nat.le_of_ble_eq_true rfl) ?_
    exact Z_reti dX7_witness_32 (Or.inl rfl) (by unfold m_witness; rw [if_neg (fun q => by first | exact n8 q.1 | exact n19 q.2.1 | exact q.2.2 h24 | exact h24 q.2.2 | exact q.2.2 (Classical.not_not.mp h24))]; exact ck_no (k := 1) h Fr.rf (by omega) (by omega))
  · skip
    have c8 := b2i_t.mp h8
    obtain ⟨r, hr, rfl, tr⟩ := isTh_t hcm c8
    have k8 : (nI r).toNatClampNeg = r := nI_clamp (by omega)
    refine X_aload_n (nx := 12) dX7_witness_11 rfl rfl rfl ?_
    refine M_getP (nx := 15) dX7_witness_12 rfl fl_RX7_10 rfl (by first | assumption | rfl | decide | omega) (by first | assumption | rfl | decide | omega) (by first | assumption | rfl | decide | omega) ?_
    refine X_iload_n (nx := 16) dX7_witness_15 rfl rfl rfl ?_
    refine Y_Vi1 (nx := 19) dX7_witness_16 rfl ml_RX7_103 kj_X0_isThere kv_X0_isThere (sp_X0_isThere (Or.inl rfl) h.1.1) (by first | assumption | rfl | decide | omega) (by first | assumption | rfl | decide | omega) (by decide) rfl (by first | decide | omega) (by exact Nat.le_of_ble_eq_true rfl) ?_
    refine X_if_eq (tgt := 27) (nx := 22) dX7_witness_19 rfl rfl (fun h19 => ?_) (fun h19 => ?_)
    · skip
      have n19 := nb h19
      refine X_aload_n (nx := 28) dX7_witness_27 rfl rfl rfl ?_
      refine X_iconst (v := -1) (nx := 29) dX7_witness_28 rfl rfl ?_
      refine Y_Vi1 (nx := 32) dX7_witness_29 rfl ml_RX7_51 kj_X7_refuse kv_X7_refuse (sp_X7_refuse (k := 1) rfl (by omega) (by omega)) (by first | assumption | rfl | decide | omega) (by first | assumption | rfl | decide | omega) (by decide) rfl (by first | decide | omega) (by exact Nat.le_of_ble_eq_true rfl) ?_
      exact Z_reti dX7_witness_32 (Or.inl rfl) (by unfold m_witness; rw [if_neg (fun q => by first | exact n8 q.1 | exact n19 q.2.1 | exact q.2.2 h24 | exact h24 q.2.2 | exact q.2.2 (Classical.not_not.mp h24))]; exact ck_no (k := 1) h Fr.rf (by omega) (by omega))
    · skip
      have c19 := b2i_t.mp h19
      obtain ⟨o, ho, rfl, to⟩ := isTh_t hcm c19
      have k19 : (nI o).toNatClampNeg = o := nI_clamp (by omega)
      refine X_iload_n (nx := 23) dX7_witness_22 rfl rfl rfl ?_
      refine X_iload_n (nx := 24) dX7_witness_23 rfl rfl rfl ?_
      refine X_icmp_ne (tgt := 33) (nx := 27) dX7_witness_24 rfl rfl (fun h24 => ?_) (fun h24 => ?_)
      · skip
        refine X_aload_n (nx := 34) dX7_witness_33 rfl rfl rfl ?_
        refine M_getP (nx := 37) dX7_witness_34 rfl fl_RX7_10 rfl (by first | assumption | rfl | decide | omega) (by first | assumption | rfl | decide | omega) (by first | assumption | rfl | decide | omega) ?_
        refine X_iload_n (nx := 38) dX7_witness_37 rfl rfl rfl ?_
        refine Y_Vr1 (nx := 41) dX7_witness_38 rfl ml_RX7_106 kj_X0_at kv_X0_at (sp_X0_at (Or.inl rfl) (i := r) rfl (by omega)) (by first | assumption | rfl | decide | omega) (by first | assumption | rfl | decide | omega) (by decide) rfl (by first | decide | omega) (by exact Nat.le_of_ble_eq_true rfl) ?_
        refine X_astore_n (i := 3) (nx := 42) dX7_witness_41 rfl rfl (by decide) rfl (st_s (st_s (st_s (st_0)))) ?_
        refine X_aload_n (nx := 43) dX7_witness_42 rfl rfl rfl ?_
        refine M_getP (nx := 46) dX7_witness_43 rfl fl_RX7_10 rfl (by first | assumption | rfl | decide | omega) (by first | assumption | rfl | decide | omega) (by first | assumption | rfl | decide | omega) ?_
        refine X_iload_n (nx := 47) dX7_witness_46 rfl rfl rfl ?_
        refine Y_Vr1 (nx := 50) dX7_witness_47 rfl ml_RX7_106 kj_X0_at kv_X0_at (sp_X0_at (Or.inl rfl) (i := o) rfl (by omega)) (by first | assumption | rfl | decide | omega) (by first | assumption | rfl | decide | omega) (by decide) rfl (by first | decide | omega) (by exact Nat.le_of_ble_eq_true rfl) ?_
        refine X_astore (i := 4) (nx := 52) dX7_witness_50 rfl (by decide) rfl (st_s (st_s (st_s (st_s (st_0))))) ?_
        refine X_iconst (v := nI 0) (nx := 53) dX7_witness_52 rfl rfl ?_
        refine X_istore (i := 5) (nx := 55) dX7_witness_53 rfl (by decide) rfl (st_s (st_s (st_s (st_s (st_s (st_0)))))) ?_
        (unfold m_witness; rw [if_pos ⟨c8, c19, h24⟩, k8, k19]; exact lp_witness hr ho 341 0 D rfl h Fr.rf)
      · skip
        refine X_aload_n (nx := 28) dX7_witness_27 rfl rfl rfl ?_
        refine X_iconst (v := -1) (nx := 29) dX7_witness_28 rfl rfl ?_
        refine Y_Vi1 (nx := 32) dX7_witness_29 rfl ml_RX7_51 kj_X7_refuse kv_X7_refuse (sp_X7_refuse (k := 1) rfl (by omega) (by omega)) (by first | assumption | rfl | decide | omega) (by first | assumption | rfl | decide | omega) (by decide) rfl (by first | decide | omega) (by exact Nat.le_of_ble_eq_true rfl) ?_
        exact Z_reti dX7_witness_32 (Or.inl rfl) (by unfold m_witness; rw [if_neg (fun q => by first | exact n8 q.1 | exact n19 q.2.1 | exact q.2.2 h24 | exact h24 q.2.2 | exact q.2.2 (Classical.not_not.mp h24))]; exact ck_no (k := 1) h Fr.rf (by omega) (by omega))
def alk (s t : List Nat) : Bool := (decide (s.length = t.length) && decide (pl s = pl t)) && alB (likeF s t) 0 (pl s)
def clsB (B : Bk) (i j : Nat) : Bool := thN B i && (thN B j && (!mtB B i && (!mtB B j && (decide (ro_ B i = ro_ B j) && (alk (sg_ B i) (sg_ B j) && decide (srv (vb_ B i) &&& srv (vb_ B j) ≠ 0))))))
theorem thN_lt {B : Bk} {i : Nat} (h : thN B i = true) : i < cm_ B := by
  unfold thN at h; simp only [Bool.and_eq_true, decide_eq_true_eq] at h; exact h.1
theorem vb_srv {B : Bk} {i : Nat} (hV : VB B) (hi : i < cm_ B) (hm : mtB B i = false) : ∃ v, v < 4 ∧ vb_ B i = nI v ∧ srv (vb_ B i) = srvm v := by
  rcases (hV.2.2 i hi).2.2 with ⟨_, v, hv, e⟩ | ⟨_, m, e, _⟩
  · refine ⟨v, hv, e, ?_⟩
    rw [e]
    obtain rfl | rfl | rfl | rfl : v = 0 ∨ v = 1 ∨ v = 2 ∨ v = 3 := by omega
    · decide
    · decide
    · decide
    · decide
  · unfold mtB at hm
    rw [e] at hm
    exact absurd (nI_pos' (by omega)) (of_decide_eq_false hm)
theorem srvm_16 : ∀ v, v < 4 → srvm v < 16 := by decide
theorem Classical_nn {p : Prop} (h : ¬ ¬ p) : p := Classical.not_not.mp h
theorem dX7_clashing_0 : decode cX7_clashing 0 = .ok (.aload_n 0, 1) := by decide +kernel
theorem dX7_clashing_1 : decode cX7_clashing 1 = .ok (.getfield 10, 3) := by decide +kernel
theorem dX7_clashing_4 : decode cX7_clashing 4 = .ok (.iload_n 1, 1) := by decide +kernel
theorem dX7_clashing_5 : decode cX7_clashing 5 = .ok (.invokevirtual 103, 3) := by decide +kernel
theorem dX7_clashing_8 : decode cX7_clashing 8 = .ok (.ifCond .eq 14, 3) := by decide +kernel
theorem dX7_clashing_11 : decode cX7_clashing 11 = .ok (.aload_n 0, 1) := by decide +kernel
theorem dX7_clashing_12 : decode cX7_clashing 12 = .ok (.getfield 10, 3) := by decide +kernel
theorem dX7_clashing_15 : decode cX7_clashing 15 = .ok (.iload_n 2, 1) := by decide +kernel
theorem dX7_clashing_16 : decode cX7_clashing 16 = .ok (.invokevirtual 103, 3) := by decide +kernel
theorem dX7_clashing_19 : decode cX7_clashing 19 = .ok (.ifCond .ne 5, 3) := by decide +kernel
theorem dX7_clashing_22 : decode cX7_clashing 22 = .ok (.iconst 0, 1) := by decide +kernel
theorem dX7_clashing_23 : decode cX7_clashing 23 = .ok (.ireturn, 1) := by decide +kernel
theorem dX7_clashing_24 : decode cX7_clashing 24 = .ok (.aload_n 0, 1) := by decide +kernel
theorem dX7_clashing_25 : decode cX7_clashing 25 = .ok (.getfield 10, 3) := by decide +kernel
theorem dX7_clashing_28 : decode cX7_clashing 28 = .ok (.iload_n 1, 1) := by decide +kernel
theorem dX7_clashing_29 : decode cX7_clashing 29 = .ok (.invokevirtual 106, 3) := by decide +kernel
theorem dX7_clashing_32 : decode cX7_clashing 32 = .ok (.astore_n 3, 1) := by decide +kernel
theorem dX7_clashing_33 : decode cX7_clashing 33 = .ok (.aload_n 0, 1) := by decide +kernel
theorem dX7_clashing_34 : decode cX7_clashing 34 = .ok (.getfield 10, 3) := by decide +kernel
theorem dX7_clashing_37 : decode cX7_clashing 37 = .ok (.iload_n 2, 1) := by decide +kernel
theorem dX7_clashing_38 : decode cX7_clashing 38 = .ok (.invokevirtual 106, 3) := by decide +kernel
theorem dX7_clashing_41 : decode cX7_clashing 41 = .ok (.astore 4, 2) := by decide +kernel
theorem dX7_clashing_43 : decode cX7_clashing 43 = .ok (.aload_n 3, 1) := by decide +kernel
theorem dX7_clashing_44 : decode cX7_clashing 44 = .ok (.invokevirtual 110, 3) := by decide +kernel
theorem dX7_clashing_47 : decode cX7_clashing 47 = .ok (.ifCond .ne 27, 3) := by decide +kernel
theorem dX7_clashing_50 : decode cX7_clashing 50 = .ok (.aload 4, 2) := by decide +kernel
theorem dX7_clashing_52 : decode cX7_clashing 52 = .ok (.invokevirtual 110, 3) := by decide +kernel
theorem dX7_clashing_55 : decode cX7_clashing 55 = .ok (.ifCond .ne 19, 3) := by decide +kernel
theorem dX7_clashing_58 : decode cX7_clashing 58 = .ok (.aload_n 3, 1) := by decide +kernel
theorem dX7_clashing_59 : decode cX7_clashing 59 = .ok (.getfield 145, 3) := by decide +kernel
theorem dX7_clashing_62 : decode cX7_clashing 62 = .ok (.aload 4, 2) := by decide +kernel
theorem dX7_clashing_64 : decode cX7_clashing 64 = .ok (.getfield 145, 3) := by decide +kernel
theorem dX7_clashing_67 : decode cX7_clashing 67 = .ok (.if_icmp .ne 7, 3) := by decide +kernel
theorem dX7_clashing_70 : decode cX7_clashing 70 = .ok (.iconst 1, 1) := by decide +kernel
theorem dX7_clashing_71 : decode cX7_clashing 71 = .ok (.goto 4, 3) := by decide +kernel
theorem dX7_clashing_74 : decode cX7_clashing 74 = .ok (.iconst 0, 1) := by decide +kernel
theorem dX7_clashing_75 : decode cX7_clashing 75 = .ok (.istore 5, 2) := by decide +kernel
theorem dX7_clashing_77 : decode cX7_clashing 77 = .ok (.iload 5, 2) := by decide +kernel
theorem dX7_clashing_79 : decode cX7_clashing 79 = .ok (.ifCond .eq 35, 3) := by decide +kernel
theorem dX7_clashing_82 : decode cX7_clashing 82 = .ok (.aload_n 3, 1) := by decide +kernel
theorem dX7_clashing_83 : decode cX7_clashing 83 = .ok (.aload 4, 2) := by decide +kernel
theorem dX7_clashing_85 : decode cX7_clashing 85 = .ok (.invokevirtual 277, 3) := by decide +kernel
theorem dX7_clashing_88 : decode cX7_clashing 88 = .ok (.ifCond .eq 26, 3) := by decide +kernel
theorem dX7_clashing_91 : decode cX7_clashing 91 = .ok (.aload_n 3, 1) := by decide +kernel
theorem dX7_clashing_92 : decode cX7_clashing 92 = .ok (.getfield 118, 3) := by decide +kernel
theorem dX7_clashing_95 : decode cX7_clashing 95 = .ok (.invokestatic 281, 3) := by decide +kernel
theorem dX7_clashing_98 : decode cX7_clashing 98 = .ok (.aload 4, 2) := by decide +kernel
theorem dX7_clashing_100 : decode cX7_clashing 100 = .ok (.getfield 118, 3) := by decide +kernel
theorem dX7_clashing_103 : decode cX7_clashing 103 = .ok (.invokestatic 281, 3) := by decide +kernel
theorem dX7_clashing_106 : decode cX7_clashing 106 = .ok (.iand, 1) := by decide +kernel
theorem dX7_clashing_107 : decode cX7_clashing 107 = .ok (.ifCond .eq 7, 3) := by decide +kernel
theorem dX7_clashing_110 : decode cX7_clashing 110 = .ok (.iconst 1, 1) := by decide +kernel
theorem dX7_clashing_111 : decode cX7_clashing 111 = .ok (.goto 4, 3) := by decide +kernel
theorem dX7_clashing_114 : decode cX7_clashing 114 = .ok (.iconst 0, 1) := by decide +kernel
theorem dX7_clashing_115 : decode cX7_clashing 115 = .ok (.ireturn, 1) := by decide +kernel
theorem sp_X7_clashing {S : St} {i j : Nat} {x y : Int32} {D : Mem} (h : INV1 D S) (hx : x = nI i) (hi : i < 10) (hy : y = nI j) (hj : j < 10) : Ei 3 j_X7_clashing [.ref 0, .int x, .int y] D (b2i (clsB (bk S) i j)) (D) := by
  refine E.start 3 (ls := [some (.ref 0), some (.int x), some (.int y), none, none, none]) (by decide +kernel) (Nat.le_of_ble_eq_true rfl) rfl (Nat.le_refl _) (Nat.le_refl _) ?_
  subst hx; subst hy
  have hcm := h.1.2.1.2.1
  refine X_aload_n (nx := 1) dX7_clashing_0 rfl rfl rfl ?_
  refine M_getP (nx := 4) dX7_clashing_1 rfl fl_RX7_10 rfl (by first | assumption | rfl | decide | omega) (by first | assumption | rfl | decide | omega) (by first | assumption | rfl | decide | omega) ?_
  refine X_iload_n (nx := 5) dX7_clashing_4 rfl rfl rfl ?_
  refine Y_Vi1 (nx := 8) dX7_clashing_5 rfl ml_RX7_103 kj_X0_isThere kv_X0_isThere (sp_X0_isThere (Or.inl rfl) h.1.1) (by first | assumption | rfl | decide | omega) (by first | assumption | rfl | decide | omega) (by decide) rfl (by first | decide | omega) (by exact Nat.le_of_ble_eq_true rfl) ?_
  refine X_if_eq (tgt := 22) (nx := 11) dX7_clashing_8 rfl rfl (fun h8 => ?_) (fun h8 => ?_)
  · skip
    have e8 : thN (bk S) i = false := by rw [← isTh_n hcm (by omega)]; exact b2i_f.mp h8
    refine X_iconst (v := 0) (nx := 23) dX7_clashing_22 rfl rfl ?_
    exact Y_reti dX7_clashing_23 (Or.inr ⟨rfl, by first | exact Or.inl rfl | exact Or.inr rfl | exact b2i_01 _ | assumption⟩) (by unfold clsB; first | (rw [e8]; rfl) | (rw [e8, e19]; rfl) | (rw [e8, e19, e47]; rfl) | (rw [e8, e19, e47, e55]; rfl) | (rw [e8, e19, e47, e55, e67]; rfl) | (rw [e8, e19, e47, e55, e67, e88]; rfl) | (rw [e8, e19, e47, e55, e67, e88, e107]; rfl)) rfl
  · skip
    have e8 : thN (bk S) i = true := by rw [← isTh_n hcm (by omega)]; exact b2i_t.mp h8
    have hci := thN_lt e8
    obtain ⟨r1a, r2a, r3a, r4a, r5a⟩ := h.1.1.2.2.2 i hci
    have hia := ((isB.facts (Or.inl rfl : isB 1)).2.2.2.2.2.2 i (by omega)).2
    have haa : rt 1 i < 138 := hia.1
    have hca : (lay (rt 1 i)).1 = 3 := hia.2
    refine X_aload_n (nx := 12) dX7_clashing_11 rfl rfl rfl ?_
    refine M_getP (nx := 15) dX7_clashing_12 rfl fl_RX7_10 rfl (by first | assumption | rfl | decide | omega) (by first | assumption | rfl | decide | omega) (by first | assumption | rfl | decide | omega) ?_
    refine X_iload_n (nx := 16) dX7_clashing_15 rfl rfl rfl ?_
    refine Y_Vi1 (nx := 19) dX7_clashing_16 rfl ml_RX7_103 kj_X0_isThere kv_X0_isThere (sp_X0_isThere (Or.inl rfl) h.1.1) (by first | assumption | rfl | decide | omega) (by first | assumption | rfl | decide | omega) (by decide) rfl (by first | decide | omega) (by exact Nat.le_of_ble_eq_true rfl) ?_
    refine X_if_ne (tgt := 24) (nx := 22) dX7_clashing_19 rfl rfl (fun h19 => ?_) (fun h19 => ?_)
    · skip
      have e19 : thN (bk S) j = true := by rw [← isTh_n hcm (by omega)]; exact b2i_t.mp h19
      have hcj := thN_lt e19
      obtain ⟨r1b, r2b, r3b, r4b, r5b⟩ := h.1.1.2.2.2 j hcj
      have hib := ((isB.facts (Or.inl rfl : isB 1)).2.2.2.2.2.2 j (by omega)).2
      have hab : rt 1 j < 138 := hib.1
      have hcb : (lay (rt 1 j)).1 = 3 := hib.2
      refine X_aload_n (nx := 25) dX7_clashing_24 rfl rfl rfl ?_
      refine M_getP (nx := 28) dX7_clashing_25 rfl fl_RX7_10 rfl (by first | assumption | rfl | decide | omega) (by first | assumption | rfl | decide | omega) (by first | assumption | rfl | decide | omega) ?_
      refine X_iload_n (nx := 29) dX7_clashing_28 rfl rfl rfl ?_
      refine Y_Vr1 (nx := 32) dX7_clashing_29 rfl ml_RX7_106 kj_X0_at kv_X0_at (sp_X0_at (Or.inl rfl) (i := i) rfl (by omega)) (by first | assumption | rfl | decide | omega) (by first | assumption | rfl | decide | omega) (by decide) rfl (by first | decide | omega) (by exact Nat.le_of_ble_eq_true rfl) ?_
      refine X_astore_n (i := 3) (nx := 33) dX7_clashing_32 rfl rfl (by decide) rfl (st_s (st_s (st_s (st_0)))) ?_
      refine X_aload_n (nx := 34) dX7_clashing_33 rfl rfl rfl ?_
      refine M_getP (nx := 37) dX7_clashing_34 rfl fl_RX7_10 rfl (by first | assumption | rfl | decide | omega) (by first | assumption | rfl | decide | omega) (by first | assumption | rfl | decide | omega) ?_
      refine X_iload_n (nx := 38) dX7_clashing_37 rfl rfl rfl ?_
      refine Y_Vr1 (nx := 41) dX7_clashing_38 rfl ml_RX7_106 kj_X0_at kv_X0_at (sp_X0_at (Or.inl rfl) (i := j) rfl (by omega)) (by first | assumption | rfl | decide | omega) (by first | assumption | rfl | decide | omega) (by decide) rfl (by first | decide | omega) (by exact Nat.le_of_ble_eq_true rfl) ?_
      refine X_astore (i := 4) (nx := 43) dX7_clashing_41 rfl (by decide) rfl (st_s (st_s (st_s (st_s (st_0))))) ?_
      refine X_aload_n (nx := 44) dX7_clashing_43 rfl rfl rfl ?_
      refine Y_Vi0 (nx := 47) dX7_clashing_44 rfl ml_RX7_110 kj_X4_isMount kv_X4_isMount (sp_X4_isMount hia) (by first | assumption | rfl | decide | omega) (by first | assumption | rfl | decide | omega) (by decide) rfl (by first | decide | omega) (by exact Nat.le_of_ble_eq_true rfl) ?_
      refine X_if_ne (tgt := 74) (nx := 50) dX7_clashing_47 rfl rfl (fun h47 => ?_) (fun h47 => ?_)
      · skip
        rw [r4a] at h47
        have e47 : mtB (bk S) i = true := b2i_t.mp h47
        refine X_iconst (v := 0) (nx := 75) dX7_clashing_74 rfl rfl ?_
        refine X_istore (i := 5) (nx := 77) dX7_clashing_75 rfl (by decide) rfl (st_s (st_s (st_s (st_s (st_s (st_0)))))) ?_
        refine X_iload (nx := 79) dX7_clashing_77 rfl rfl ?_
        refine X_if_eq (tgt := 114) (nx := 82) dX7_clashing_79 rfl rfl (fun h79 => ?_) (fun h79 => ?_)
        · skip
          refine X_iconst (v := 0) (nx := 115) dX7_clashing_114 rfl rfl ?_
          exact Y_reti dX7_clashing_115 (Or.inr ⟨rfl, by first | exact Or.inl rfl | exact Or.inr rfl | exact b2i_01 _ | assumption⟩) (by unfold clsB; first | (rw [e8]; rfl) | (rw [e8, e19]; rfl) | (rw [e8, e19, e47]; rfl) | (rw [e8, e19, e47, e55]; rfl) | (rw [e8, e19, e47, e55, e67]; rfl) | (rw [e8, e19, e47, e55, e67, e88]; rfl) | (rw [e8, e19, e47, e55, e67, e88, e107]; rfl)) rfl
        · exact absurd h79 (by decide)
      · skip
        rw [r4a] at h47
        have e47 : mtB (bk S) i = false := b2i_f.mp h47
        obtain ⟨va, hva, eva, sva⟩ := vb_srv h.1.2.1 hci e47
        refine X_aload (nx := 52) dX7_clashing_50 rfl rfl ?_
        refine Y_Vi0 (nx := 55) dX7_clashing_52 rfl ml_RX7_110 kj_X4_isMount kv_X4_isMount (sp_X4_isMount hib) (by first | assumption | rfl | decide | omega) (by first | assumption | rfl | decide | omega) (by decide) rfl (by first | decide | omega) (by exact Nat.le_of_ble_eq_true rfl) ?_
        refine X_if_ne (tgt := 74) (nx := 58) dX7_clashing_55 rfl rfl (fun h55 => ?_) (fun h55 => ?_)
        · skip
          rw [r4b] at h55
          have e55 : mtB (bk S) j = true := b2i_t.mp h55
          refine X_iconst (v := 0) (nx := 75) dX7_clashing_74 rfl rfl ?_
          refine X_istore (i := 5) (nx := 77) dX7_clashing_75 rfl (by decide) rfl (st_s (st_s (st_s (st_s (st_s (st_0)))))) ?_
          refine X_iload (nx := 79) dX7_clashing_77 rfl rfl ?_
          refine X_if_eq (tgt := 114) (nx := 82) dX7_clashing_79 rfl rfl (fun h79 => ?_) (fun h79 => ?_)
          · skip
            refine X_iconst (v := 0) (nx := 115) dX7_clashing_114 rfl rfl ?_
            exact Y_reti dX7_clashing_115 (Or.inr ⟨rfl, by first | exact Or.inl rfl | exact Or.inr rfl | exact b2i_01 _ | assumption⟩) (by unfold clsB; first | (rw [e8]; rfl) | (rw [e8, e19]; rfl) | (rw [e8, e19, e47]; rfl) | (rw [e8, e19, e47, e55]; rfl) | (rw [e8, e19, e47, e55, e67]; rfl) | (rw [e8, e19, e47, e55, e67, e88]; rfl) | (rw [e8, e19, e47, e55, e67, e88, e107]; rfl)) rfl
          · exact absurd h79 (by decide)
        · skip
          rw [r4b] at h55
          have e55 : mtB (bk S) j = false := b2i_f.mp h55
          obtain ⟨vb, hvb, evb, svb⟩ := vb_srv h.1.2.1 hcj e55
          refine X_aload_n (nx := 59) dX7_clashing_58 rfl rfl rfl ?_
          refine M_getI (nx := 62) dX7_clashing_59 rfl fl_RX7_145 rfl (by first | assumption | rfl | decide | omega) (by first | assumption | rfl | decide | omega) ?_
          refine X_top (r2a) ?_
          refine X_aload (nx := 64) dX7_clashing_62 rfl rfl ?_
          refine M_getI (nx := 67) dX7_clashing_64 rfl fl_RX7_145 rfl (by first | assumption | rfl | decide | omega) (by first | assumption | rfl | decide | omega) ?_
          refine X_top (r2b) ?_
          refine X_icmp_ne (tgt := 74) (nx := 70) dX7_clashing_67 rfl rfl (fun h67 => ?_) (fun h67 => ?_)
          · skip
            rw [nI_eq (by have := (h.1.2.1.2.2 i hci).1; omega) (by have := (h.1.2.1.2.2 j hcj).1; omega)] at h67
            have e67 := decide_eq_false h67
            refine X_iconst (v := 0) (nx := 75) dX7_clashing_74 rfl rfl ?_
            refine X_istore (i := 5) (nx := 77) dX7_clashing_75 rfl (by decide) rfl (st_s (st_s (st_s (st_s (st_s (st_0)))))) ?_
            refine X_iload (nx := 79) dX7_clashing_77 rfl rfl ?_
            refine X_if_eq (tgt := 114) (nx := 82) dX7_clashing_79 rfl rfl (fun h79 => ?_) (fun h79 => ?_)
            · skip
              refine X_iconst (v := 0) (nx := 115) dX7_clashing_114 rfl rfl ?_
              exact Y_reti dX7_clashing_115 (Or.inr ⟨rfl, by first | exact Or.inl rfl | exact Or.inr rfl | exact b2i_01 _ | assumption⟩) (by unfold clsB; first | (rw [e8]; rfl) | (rw [e8, e19]; rfl) | (rw [e8, e19, e47]; rfl) | (rw [e8, e19, e47, e55]; rfl) | (rw [e8, e19, e47, e55, e67]; rfl) | (rw [e8, e19, e47, e55, e67, e88]; rfl) | (rw [e8, e19, e47, e55, e67, e88, e107]; rfl)) rfl
            · exact absurd h79 (by decide)
          · skip
            rw [nI_eq (by have := (h.1.2.1.2.2 i hci).1; omega) (by have := (h.1.2.1.2.2 j hcj).1; omega)] at h67
            have e67 := decide_eq_true h67
            refine X_iconst (v := 1) (nx := 71) dX7_clashing_70 rfl rfl ?_
            refine X_goto (tgt := 75) dX7_clashing_71 rfl ?_
            refine X_istore (i := 5) (nx := 77) dX7_clashing_75 rfl (by decide) rfl (st_s (st_s (st_s (st_s (st_s (st_0)))))) ?_
            refine X_iload (nx := 79) dX7_clashing_77 rfl rfl ?_
            refine X_if_eq (tgt := 114) (nx := 82) dX7_clashing_79 rfl rfl (fun h79 => ?_) (fun h79 => ?_)
            · exact absurd h79 (by decide)
            · skip
              refine X_aload_n (nx := 83) dX7_clashing_82 rfl rfl rfl ?_
              refine X_aload (nx := 85) dX7_clashing_83 rfl rfl ?_
              refine Y_Vi1 (nx := 88) dX7_clashing_85 rfl ml_RX7_277 kj_X4_isAlike kv_X4_isAlike (sp_X4_isAlike hia hib r5a r5b (h.1.2.1.2.2 i hci).2.1 (h.1.2.1.2.2 j hcj).2.1) (by first | assumption | rfl | decide | omega) (by first | assumption | rfl | decide | omega) (by decide) rfl (by first | decide | omega) (by exact Nat.le_of_ble_eq_true rfl) ?_
              refine X_if_eq (tgt := 114) (nx := 91) dX7_clashing_88 rfl rfl (fun h88 => ?_) (fun h88 => ?_)
              · skip
                have e88 : alk (sg_ (bk S) i) (sg_ (bk S) j) = false := b2i_f.mp h88
                refine X_iconst (v := 0) (nx := 115) dX7_clashing_114 rfl rfl ?_
                exact Y_reti dX7_clashing_115 (Or.inr ⟨rfl, by first | exact Or.inl rfl | exact Or.inr rfl | exact b2i_01 _ | assumption⟩) (by unfold clsB; first | (rw [e8]; rfl) | (rw [e8, e19]; rfl) | (rw [e8, e19, e47]; rfl) | (rw [e8, e19, e47, e55]; rfl) | (rw [e8, e19, e47, e55, e67]; rfl) | (rw [e8, e19, e47, e55, e67, e88]; rfl) | (rw [e8, e19, e47, e55, e67, e88, e107]; rfl)) rfl
              · skip
                have e88 : alk (sg_ (bk S) i) (sg_ (bk S) j) = true := b2i_t.mp h88
                refine X_aload_n (nx := 92) dX7_clashing_91 rfl rfl rfl ?_
                refine M_getI (nx := 95) dX7_clashing_92 rfl fl_RX7_118 rfl (by first | assumption | rfl | decide | omega) (by first | assumption | rfl | decide | omega) ?_
                refine Y_Si1 (nx := 98) dX7_clashing_95 rfl ml_RX7_281 kj_X7_served ks_X7_served (sp_X7_served (v := va) (r3a.trans eva) hva) (by first | decide | omega) (by exact Nat.le_of_ble_eq_true rfl) ?_
                refine X_aload (nx := 100) dX7_clashing_98 rfl rfl ?_
                refine M_getI (nx := 103) dX7_clashing_100 rfl fl_RX7_118 rfl (by first | assumption | rfl | decide | omega) (by first | assumption | rfl | decide | omega) ?_
                refine Y_Si1 (nx := 106) dX7_clashing_103 rfl ml_RX7_281 kj_X7_served ks_X7_served (sp_X7_served (v := vb) (r3b.trans evb) hvb) (by first | decide | omega) (by exact Nat.le_of_ble_eq_true rfl) ?_
                refine X_iand (nx := 107) dX7_clashing_106 rfl ?_
                refine X_top (nI_and _ _) ?_
                refine X_if_eq (tgt := 114) (nx := 110) dX7_clashing_107 rfl rfl (fun h107 => ?_) (fun h107 => ?_)
                · skip
                  rw [nI_0' (Nat.lt_of_le_of_lt Nat.and_le_left (Nat.lt_trans (srvm_16 va hva) (by decide)))] at h107
                  have e107 : decide (srv (vb_ (bk S) i) &&& srv (vb_ (bk S) j) ≠ 0) = false := decide_eq_false (fun q => q (by rw [sva, svb]; exact h107))
                  refine X_iconst (v := 0) (nx := 115) dX7_clashing_114 rfl rfl ?_
                  exact Y_reti dX7_clashing_115 (Or.inr ⟨rfl, by first | exact Or.inl rfl | exact Or.inr rfl | exact b2i_01 _ | assumption⟩) (by unfold clsB; first | (rw [e8]; rfl) | (rw [e8, e19]; rfl) | (rw [e8, e19, e47]; rfl) | (rw [e8, e19, e47, e55]; rfl) | (rw [e8, e19, e47, e55, e67]; rfl) | (rw [e8, e19, e47, e55, e67, e88]; rfl) | (rw [e8, e19, e47, e55, e67, e88, e107]; rfl)) rfl
                · skip
                  rw [nI_0' (Nat.lt_of_le_of_lt Nat.and_le_left (Nat.lt_trans (srvm_16 va hva) (by decide)))] at h107
                  have e107 : decide (srv (vb_ (bk S) i) &&& srv (vb_ (bk S) j) ≠ 0) = true := decide_eq_true (fun q => h107 (by rw [← sva, ← svb]; exact q))
                  refine X_iconst (v := 1) (nx := 111) dX7_clashing_110 rfl rfl ?_
                  refine X_goto (tgt := 115) dX7_clashing_111 rfl ?_
                  exact Y_reti dX7_clashing_115 (Or.inr ⟨rfl, by first | exact Or.inl rfl | exact Or.inr rfl | exact b2i_01 _ | assumption⟩) (by unfold clsB; first | (rw [e8]; rfl) | (rw [e8, e19]; rfl) | (rw [e8, e19, e47]; rfl) | (rw [e8, e19, e47, e55]; rfl) | (rw [e8, e19, e47, e55, e67]; rfl) | (rw [e8, e19, e47, e55, e67, e88]; rfl) | (rw [e8, e19, e47, e55, e67, e88, e107]; rfl)) rfl
    · skip
      have e19 : thN (bk S) j = false := by rw [← isTh_n hcm (by omega)]; exact b2i_f.mp h19
      refine X_iconst (v := 0) (nx := 23) dX7_clashing_22 rfl rfl ?_
      exact Y_reti dX7_clashing_23 (Or.inr ⟨rfl, by first | exact Or.inl rfl | exact Or.inr rfl | exact b2i_01 _ | assumption⟩) (by unfold clsB; first | (rw [e8]; rfl) | (rw [e8, e19]; rfl) | (rw [e8, e19, e47]; rfl) | (rw [e8, e19, e47, e55]; rfl) | (rw [e8, e19, e47, e55, e67]; rfl) | (rw [e8, e19, e47, e55, e67, e88]; rfl) | (rw [e8, e19, e47, e55, e67, e88, e107]; rfl)) rfl
def inn (B : Bk) (i n : Nat) : Nat := cn (fun k => clsB B i (i + 1 + k)) n
def cfP (B : Bk) (i : Nat) : Bool := decide (inn B i (9 - i) ≠ 0)
def cMany (B : Bk) (i : Nat) : Nat := sumN (fun i => inn B i (9 - i)) i
def lsI (B : Bk) (i k : Nat) : Int32 := match fst_ (cfP B) 0 i with
  | some z => nI z
  | none => if inn B i k = 0 then -9 else nI i
def m_clash (S : St) (y : Int32) : Int32 × St :=
  if decide (y = 0 ∨ y = 1) = true then (if y = 0 then nI (cMany (bk S) 10) else opI (fst_ (cfP (bk S)) 0 10), S) else no_ S 2
theorem cMany_0 (B : Bk) : ∀ i, cMany B i = 0 ↔ fst_ (cfP B) 0 i = none := by
  intro i
  induction i with
  | zero => exact ⟨fun _ => rfl, fun _ => rfl⟩
  | succ i ih =>
    rw [fst_snoc, Nat.zero_add, show cMany B (i + 1) = cMany B i + inn B i (9 - i) from rfl]
    unfold cfP
    by_cases e : inn B i (9 - i) = 0
    · rw [e, decide_eq_false (fun q => q rfl), if_neg (by decide), Nat.add_zero, ih]
      unfold cfP
      cases fst_ (fun i => decide (inn B i (9 - i) ≠ 0)) 0 i <;> simp
    · rw [decide_eq_true e, if_pos rfl]
      refine ⟨fun q => by omega, fun q => ?_⟩
      split at q <;> cases q
theorem inn_le (B : Bk) (i n : Nat) : inn B i n ≤ n := cn_le _ n
theorem cMany_le (B : Bk) : ∀ i, cMany B i ≤ 9 * i := by
  intro i
  induction i with
  | zero => exact Nat.le_refl _
  | succ i ih => rw [show cMany B (i + 1) = cMany B i + inn B i (9 - i) from rfl]; have := inn_le B i (9 - i); omega
theorem ls_next {B : Bk} {i : Nat} : lsI B i (9 - i) = lsI B (i + 1) 0 := by
  unfold lsI
  rw [fst_snoc, Nat.zero_add]
  cases h : fst_ (cfP B) 0 i with
  | some z => rfl
  | none =>
    dsimp only
    unfold cfP
    by_cases e : inn B i (9 - i) = 0
    · rw [if_pos e, decide_eq_false (fun q => q e), if_neg (by decide)]; rfl
    · rw [if_neg e, decide_eq_true e, if_pos rfl]
theorem ls_0 {B : Bk} {i k : Nat} (h : clsB B i (i + 1 + k) = false) : inn B i k = inn B i (k + 1) ∧ lsI B i k = lsI B i (k + 1) := by
  have e : inn B i k = inn B i (k + 1) := (cn_0 (p := fun k => clsB B i (i + 1 + k)) h).1
  exact ⟨e, by unfold lsI; rw [e]⟩
theorem ls_1 {B : Bk} {i k : Nat} (h : clsB B i (i + 1 + k) = true) (hi : i < 10) (hk : k < 10) : nI (cMany B i + inn B i k) + 1 = nI (cMany B i + inn B i (k + 1)) ∧ (nI (cMany B i + inn B i k) = 0 → nI i = lsI B i (k + 1)) ∧ (¬ nI (cMany B i + inn B i k) = 0 → lsI B i k = lsI B i (k + 1)) := by
  have e : inn B i (k + 1) = inn B i k + 1 := by unfold inn; rw [cn_s]; simp only [h, if_true]
  have b1 := cMany_le B i
  have b2 := inn_le B i k
  refine ⟨by rw [e, ← Nat.add_assoc]; exact nI_1 _, fun q => ?_, fun q => ?_⟩
  · rw [nI_0' (by omega)] at q
    unfold lsI
    rw [(cMany_0 B i).mp (by omega), e]
    dsimp only
    rw [if_neg (by omega)]
  · unfold lsI
    cases hf : fst_ (cfP B) 0 i with
    | some z => rfl
    | none =>
      have h0 := (cMany_0 B i).mpr hf
      rw [nI_0' (by omega)] at q
      dsimp only
      rw [if_neg (by omega), if_neg (by omega)]
theorem ls_end {B : Bk} : lsI B 10 0 = opI (fst_ (cfP B) 0 10) := by
  unfold lsI
  cases fst_ (cfP B) 0 10 <;> rfl
theorem dX7_clash_0 : decode cX7_clash 0 = .ok (.iload_n 1, 1) := by decide +kernel
theorem dX7_clash_1 : decode cX7_clash 1 = .ok (.invokestatic 197, 3) := by decide +kernel
theorem dX7_clash_4 : decode cX7_clash 4 = .ok (.ifCond .ne 10, 3) := by decide +kernel
theorem dX7_clash_7 : decode cX7_clash 7 = .ok (.aload_n 0, 1) := by decide +kernel
theorem dX7_clash_8 : decode cX7_clash 8 = .ok (.bipush (-2), 2) := by decide +kernel
theorem dX7_clash_10 : decode cX7_clash 10 = .ok (.invokevirtual 51, 3) := by decide +kernel
theorem dX7_clash_13 : decode cX7_clash 13 = .ok (.ireturn, 1) := by decide +kernel
theorem dX7_clash_14 : decode cX7_clash 14 = .ok (.iconst 0, 1) := by decide +kernel
theorem dX7_clash_15 : decode cX7_clash 15 = .ok (.istore_n 2, 1) := by decide +kernel
theorem dX7_clash_16 : decode cX7_clash 16 = .ok (.bipush (-9), 2) := by decide +kernel
theorem dX7_clash_18 : decode cX7_clash 18 = .ok (.istore_n 3, 1) := by decide +kernel
theorem dX7_clash_19 : decode cX7_clash 19 = .ok (.iconst 0, 1) := by decide +kernel
theorem dX7_clash_20 : decode cX7_clash 20 = .ok (.istore 4, 2) := by decide +kernel
theorem dX7_clash_22 : decode cX7_clash 22 = .ok (.iload 4, 2) := by decide +kernel
theorem dX7_clash_24 : decode cX7_clash 24 = .ok (.bipush 10, 2) := by decide +kernel
theorem dX7_clash_26 : decode cX7_clash 26 = .ok (.if_icmp .ge 53, 3) := by decide +kernel
theorem dX7_clash_29 : decode cX7_clash 29 = .ok (.iload 4, 2) := by decide +kernel
theorem dX7_clash_31 : decode cX7_clash 31 = .ok (.iconst 1, 1) := by decide +kernel
theorem dX7_clash_32 : decode cX7_clash 32 = .ok (.iadd, 1) := by decide +kernel
theorem dX7_clash_33 : decode cX7_clash 33 = .ok (.istore 5, 2) := by decide +kernel
theorem dX7_clash_35 : decode cX7_clash 35 = .ok (.iload 5, 2) := by decide +kernel
theorem dX7_clash_37 : decode cX7_clash 37 = .ok (.bipush 10, 2) := by decide +kernel
theorem dX7_clash_39 : decode cX7_clash 39 = .ok (.if_icmp .ge 34, 3) := by decide +kernel
theorem dX7_clash_42 : decode cX7_clash 42 = .ok (.aload_n 0, 1) := by decide +kernel
theorem dX7_clash_43 : decode cX7_clash 43 = .ok (.iload 4, 2) := by decide +kernel
theorem dX7_clash_45 : decode cX7_clash 45 = .ok (.iload 5, 2) := by decide +kernel
theorem dX7_clash_47 : decode cX7_clash 47 = .ok (.invokevirtual 217, 3) := by decide +kernel
theorem dX7_clash_50 : decode cX7_clash 50 = .ok (.ifCond .eq 17, 3) := by decide +kernel
theorem dX7_clash_53 : decode cX7_clash 53 = .ok (.iload_n 2, 1) := by decide +kernel
theorem dX7_clash_54 : decode cX7_clash 54 = .ok (.ifCond .ne 8, 3) := by decide +kernel
theorem dX7_clash_57 : decode cX7_clash 57 = .ok (.iload 4, 2) := by decide +kernel
theorem dX7_clash_59 : decode cX7_clash 59 = .ok (.goto 4, 3) := by decide +kernel
theorem dX7_clash_62 : decode cX7_clash 62 = .ok (.iload_n 3, 1) := by decide +kernel
theorem dX7_clash_63 : decode cX7_clash 63 = .ok (.istore_n 3, 1) := by decide +kernel
theorem dX7_clash_64 : decode cX7_clash 64 = .ok (.iinc 2 1, 3) := by decide +kernel
theorem dX7_clash_67 : decode cX7_clash 67 = .ok (.iinc 5 1, 3) := by decide +kernel
theorem dX7_clash_70 : decode cX7_clash 70 = .ok (.goto (-35), 3) := by decide +kernel
theorem dX7_clash_73 : decode cX7_clash 73 = .ok (.iinc 4 1, 3) := by decide +kernel
theorem dX7_clash_76 : decode cX7_clash 76 = .ok (.goto (-54), 3) := by decide +kernel
theorem dX7_clash_79 : decode cX7_clash 79 = .ok (.iload_n 1, 1) := by decide +kernel
theorem dX7_clash_80 : decode cX7_clash 80 = .ok (.ifCond .ne 7, 3) := by decide +kernel
theorem dX7_clash_83 : decode cX7_clash 83 = .ok (.iload_n 2, 1) := by decide +kernel
theorem dX7_clash_84 : decode cX7_clash 84 = .ok (.goto 4, 3) := by decide +kernel
theorem dX7_clash_87 : decode cX7_clash 87 = .ok (.iload_n 3, 1) := by decide +kernel
theorem dX7_clash_88 : decode cX7_clash 88 = .ok (.ireturn, 1) := by decide +kernel
theorem lp_clash_in {S : St} {D : Mem} {i : Nat} {y : Int32} (hi : i < 10) (h : INV1 D S) {Q : List Value → Wd → Prop} (hQ : X 4 138 j_X7_clash 73 [some (.ref 0), some (.int y), some (.int (nI (cMany (bk S) i + inn (bk S) i (9 - i)))), some (.int (lsI (bk S) i (9 - i))), some (.int (nI i)), some (.int (nI 10))] [] (138, P0, D) Q) : ∀ (m : Nat) (k : Nat), i + k + m = 9 → X 4 138 j_X7_clash 35 [some (.ref 0), some (.int y), some (.int (nI (cMany (bk S) i + inn (bk S) i k))), some (.int (lsI (bk S) i k)), some (.int (nI i)), some (.int (nI (i + 1 + k)))] [] (138, P0, D) (Q) := by
  intro m
  induction m with
  | zero =>
    intro k hk
    refine X_iload (nx := 37) dX7_clash_35 rfl rfl ?_
    refine X_bipush (v := nI 10) (nx := 39) dX7_clash_37 rfl rfl ?_
    refine X_icmp_ge (tgt := 73) (nx := 42) dX7_clash_39 rfl rfl (fun h39 => ?_) (fun h39 => ?_)
    · skip
      (obtain rfl : k = 9 - i := (by omega)); rw [show i + 1 + (9 - i) = 10 by omega]; exact hQ
    · exact absurd h39 (fun q => q (nI_le (by omega) (by omega)))
  | succ m ih =>
    intro k hk
    refine X_iload (nx := 37) dX7_clash_35 rfl rfl ?_
    refine X_bipush (v := nI 10) (nx := 39) dX7_clash_37 rfl rfl ?_
    refine X_icmp_ge (tgt := 73) (nx := 42) dX7_clash_39 rfl rfl (fun h39 => ?_) (fun h39 => ?_)
    · exact absurd h39 (nI_ge (by omega) (by omega))
    · skip
      refine X_aload_n (nx := 43) dX7_clash_42 rfl rfl rfl ?_
      refine X_iload (nx := 45) dX7_clash_43 rfl rfl ?_
      refine X_iload (nx := 47) dX7_clash_45 rfl rfl ?_
      refine Y_Vi2 (nx := 50) dX7_clash_47 rfl ml_RX7_217 kj_X7_clashing kv_X7_clashing (sp_X7_clashing h rfl (by omega) rfl (by omega)) (by first | assumption | rfl | decide | omega) (by first | assumption | rfl | decide | omega) (by decide) rfl (by first | decide | omega) (by exact Nat.le_of_ble_eq_true rfl) ?_
      refine X_if_eq (tgt := 67) (nx := 53) dX7_clash_50 rfl rfl (fun h50 => ?_) (fun h50 => ?_)
      · skip
        have hz := ls_0 (b2i_f.mp h50)
        rw [hz.1, hz.2]
        refine X_iinc (nx := 70) dX7_clash_67 rfl (by decide) rfl (by first | exact ii1 _ | rfl) rfl (st_s (st_s (st_s (st_s (st_s (st_0)))))) ?_
        refine X_goto (tgt := 35) dX7_clash_70 rfl ?_
        exact ih (k + 1) (by omega)
      · skip
        have hz := ls_1 (b2i_t.mp h50) hi (by omega)
        refine X_iload_n (nx := 54) dX7_clash_53 rfl rfl rfl ?_
        refine X_if_ne (tgt := 62) (nx := 57) dX7_clash_54 rfl rfl (fun h54 => ?_) (fun h54 => ?_)
        · skip
          refine X_iload_n (nx := 63) dX7_clash_62 rfl rfl rfl ?_
          refine X_top (hz.2.2 h54) ?_
          refine X_istore_n (i := 3) (nx := 64) dX7_clash_63 rfl rfl (by decide) rfl (st_s (st_s (st_s (st_0)))) ?_
          refine X_iinc (nx := 67) dX7_clash_64 rfl (by decide) rfl hz.1 rfl (st_s (st_s (st_0))) ?_
          refine X_iinc (nx := 70) dX7_clash_67 rfl (by decide) rfl (by first | exact ii1 _ | rfl) rfl (st_s (st_s (st_s (st_s (st_s (st_0)))))) ?_
          refine X_goto (tgt := 35) dX7_clash_70 rfl ?_
          exact ih (k + 1) (by omega)
        · skip
          refine X_iload (nx := 59) dX7_clash_57 rfl rfl ?_
          refine X_top (hz.2.1 h54) ?_
          refine X_goto (tgt := 63) dX7_clash_59 rfl ?_
          refine X_istore_n (i := 3) (nx := 64) dX7_clash_63 rfl rfl (by decide) rfl (st_s (st_s (st_s (st_0)))) ?_
          refine X_iinc (nx := 67) dX7_clash_64 rfl (by decide) rfl hz.1 rfl (st_s (st_s (st_0))) ?_
          refine X_iinc (nx := 70) dX7_clash_67 rfl (by decide) rfl (by first | exact ii1 _ | rfl) rfl (st_s (st_s (st_s (st_s (st_s (st_0)))))) ?_
          refine X_goto (tgt := 35) dX7_clash_70 rfl ?_
          exact ih (k + 1) (by omega)
theorem lp_clash {S : St} {D : Mem} {y : Int32} (h : INV1 D S) : ∀ (m : Nat) (i : Nat), i + m = 10 → X 4 138 j_X7_clash 22 [some (.ref 0), some (.int y), some (.int (nI (cMany (bk S) i))), some (.int (lsI (bk S) i 0)), some (.int (nI i)), none] [] (138, P0, D) (fun x σ => ∃ (u : Int32) (D' : Mem), x = [.int u] ∧ σ = wd D' ∧ CK D (if y = 0 then nI (cMany (bk S) 10) else opI (fst_ (cfP (bk S)) 0 10), S) u D') := by
  intro m
  induction m with
  | zero =>
    intro i hi
    refine X_iload (nx := 24) dX7_clash_22 rfl rfl ?_
    refine X_bipush (v := nI 10) (nx := 26) dX7_clash_24 rfl rfl ?_
    refine X_icmp_ge (tgt := 79) (nx := 29) dX7_clash_26 rfl rfl (fun h26 => ?_) (fun h26 => ?_)
    · skip
      refine X_iload_n (nx := 80) dX7_clash_79 rfl rfl rfl ?_
      refine X_if_ne (tgt := 87) (nx := 83) dX7_clash_80 rfl rfl (fun h80 => ?_) (fun h80 => ?_)
      · skip
        refine X_iload_n (nx := 88) dX7_clash_87 rfl rfl rfl ?_
        exact Z_reti dX7_clash_88 (Or.inl rfl) (by obtain rfl : i = 10 := (by omega); first | (rw [if_neg h80]; exact ck_s ls_end h Fr.rf) | (rw [if_pos h80]; exact ck_s rfl h Fr.rf))
      · skip
        refine X_iload_n (nx := 84) dX7_clash_83 rfl rfl rfl ?_
        refine X_goto (tgt := 88) dX7_clash_84 rfl ?_
        exact Z_reti dX7_clash_88 (Or.inl rfl) (by obtain rfl : i = 10 := (by omega); first | (rw [if_neg h80]; exact ck_s ls_end h Fr.rf) | (rw [if_pos h80]; exact ck_s rfl h Fr.rf))
    · exact absurd h26 (fun q => q (nI_le (by omega) (by omega)))
  | succ m ih =>
    intro i hi
    refine X_iload (nx := 24) dX7_clash_22 rfl rfl ?_
    refine X_bipush (v := nI 10) (nx := 26) dX7_clash_24 rfl rfl ?_
    refine X_icmp_ge (tgt := 79) (nx := 29) dX7_clash_26 rfl rfl (fun h26 => ?_) (fun h26 => ?_)
    · exact absurd h26 (nI_ge (by omega) (by omega))
    · skip
      refine X_iload (nx := 31) dX7_clash_29 rfl rfl ?_
      refine X_iconst (v := 1) (nx := 32) dX7_clash_31 rfl rfl ?_
      refine X_iadd (nx := 33) dX7_clash_32 rfl ?_
      refine X_top (nI_1 i) ?_
      refine X_istore (i := 5) (nx := 35) dX7_clash_33 rfl (by decide) rfl (st_s (st_s (st_s (st_s (st_s (st_0)))))) ?_
      refine lp_clash_in (by omega) h ?_ (9 - i) 0 (by omega)
      refine X_iinc (nx := 76) dX7_clash_73 rfl (by decide) rfl (by first | exact ii1 _ | rfl) rfl (st_s (st_s (st_s (st_s (st_0))))) ?_
      refine X_goto (tgt := 22) dX7_clash_76 rfl ?_
      rw [ls_next]
      refine X_fg6 ?_
      exact ih (i + 1) (by omega)
theorem sp_X7_clash {y : Int32} {S : St} {D : Mem} (h : INV1 D S) : Rix 4 j_X7_clash [.ref 0, .int y] D (fun u D' => CK D (m_clash S y) u D') := by
  refine E.start 4 (ls := [some (.ref 0), some (.int y), none, none, none, none]) (by decide +kernel) (Nat.le_of_ble_eq_true rfl) rfl (Nat.le_refl _) (Nat.le_refl _) ?_
  have hcm := h.1.2.1.2.1
  refine X_iload_n (nx := 1) dX7_clash_0 rfl rfl rfl ?_
  refine Y_Si1 (nx := 4) dX7_clash_1 rfl ml_RX7_197 kj_X7_isOneOfTwo ks_X7_isOneOfTwo (sp_X7_isOneOfTwo) (by first | decide | omega) (by exact Nat.le_of_ble_eq_true rfl) ?_
  refine X_if_ne (tgt := 14) (nx := 7) dX7_clash_4 rfl rfl (fun h4 => ?_) (fun h4 => ?_)
  · skip
    have c4 := b2i_t.mp h4
    refine X_iconst (v := nI 0) (nx := 15) dX7_clash_14 rfl rfl ?_
    refine X_istore_n (i := 2) (nx := 16) dX7_clash_15 rfl rfl (by decide) rfl (st_s (st_s (st_0))) ?_
    refine X_bipush (v := -9) (nx := 18) dX7_clash_16 rfl rfl ?_
    refine X_istore_n (i := 3) (nx := 19) dX7_clash_18 rfl rfl (by decide) rfl (st_s (st_s (st_s (st_0)))) ?_
    refine X_iconst (v := nI 0) (nx := 20) dX7_clash_19 rfl rfl ?_
    refine X_istore (i := 4) (nx := 22) dX7_clash_20 rfl (by decide) rfl (st_s (st_s (st_s (st_s (st_0))))) ?_
    (unfold m_clash; rw [if_pos c4]; exact lp_clash h 10 0 rfl)
  · skip
    have n4 := nb h4
    refine X_aload_n (nx := 8) dX7_clash_7 rfl rfl rfl ?_
    refine X_bipush (v := -2) (nx := 10) dX7_clash_8 rfl rfl ?_
    refine Y_Vi1 (nx := 13) dX7_clash_10 rfl ml_RX7_51 kj_X7_refuse kv_X7_refuse (sp_X7_refuse (k := 2) rfl (by omega) (by omega)) (by first | assumption | rfl | decide | omega) (by first | assumption | rfl | decide | omega) (by decide) rfl (by first | decide | omega) (by exact Nat.le_of_ble_eq_true rfl) ?_
    exact Z_reti dX7_clash_13 (Or.inl rfl) (by unfold m_clash; rw [if_neg n4]; exact ck_no (k := 2) h Fr.rf (by omega) (by omega))
/-! the letter that a parameter binds -/
def lbSt (ml : List (Nat × Nat)) : Nat → Nat
  | 0 => 0
  | i + 1 => (ml.getD i (0, 0)).2
def lbR (ml : List (Nat × Nat)) (e i : Nat) : Nat := if i < ml.length then (ml.getD i (0, 0)).1 else e
def lbA (B : Bk) (L : List Nat) (ml : List (Nat × Nat)) (e k : Nat) : Nat → Int32
  | 0 => -9
  | i + 1 => match plOf (sg_ B (lbR ml e i)) k 0 (pl (sg_ B (lbR ml e i))) with
    | some q => nI (L.getD (lbSt ml i + q) 0)
    | none => lbA B L ml e k i
theorem chain_idx {B : Bk} {N : Nat} : ∀ {ml : List (Nat × Nat)} {s f : Nat}, chain B s ml f → f ≤ N → s ≤ f ∧ ∀ i, i < ml.length → thN B (ml.getD i (0, 0)).1 = true ∧ (if i = 0 then s else (ml.getD (i - 1) (0, 0)).2) + (es_ B (ml.getD i (0, 0)).1).length ≤ N := by
  intro ml
  induction ml with
  | nil => intro s f h hf; cases h; exact ⟨Nat.le_refl _, fun i hi => absurd hi (Nat.not_lt_zero _)⟩
  | cons x r ih =>
    intro s f h hf
    obtain ⟨h1, h2, h3, h4⟩ := h
    obtain ⟨g1, g2⟩ := ih h4 hf
    refine ⟨by omega, fun i hi => ?_⟩
    cases i with
    | zero => exact ⟨h1, by show s + (es_ B x.1).length ≤ N; omega⟩
    | succ i =>
      obtain ⟨k1, k2⟩ := g2 i (by simp at hi; omega)
      refine ⟨k1, ?_⟩
      rw [if_neg (by omega)]
      cases i with
      | zero => exact k2
      | succ i => rw [if_neg (by omega)] at k2; exact k2
theorem chain_end {B : Bk} : ∀ {ml : List (Nat × Nat)} {s f : Nat}, chain B s ml f → f = if ml.length = 0 then s else (ml.getD (ml.length - 1) (0, 0)).2 := by
  intro ml
  induction ml with
  | nil => intro s f h; cases h; rfl
  | cons x r ih =>
    intro s f h
    have := ih h.2.2.2
    rw [this]
    cases r with
    | nil => rfl
    | cons y r => rfl
/-- the trail's figures -/
def LBG (B : Bk) (L : List Nat) (ml : List (Nat × Nat)) (e : Nat) : Prop := ∀ i, i ≤ ml.length → lbR ml e i < cm_ B ∧ lbSt ml i + pl (sg_ B (lbR ml e i)) ≤ L.length
theorem lbg_of {B : Bk} {w v t e st : Nat} {L : List Nat} {ml : List (Nat × Nat)} (h1 : chain B 0 ml st) (h2 : SVf B v e = true) (h3 : st + (es_ B e).length ≤ L.length) : LBG B L ml e := by
  intro i hi
  obtain ⟨_, g2⟩ := chain_idx (N := L.length) h1 (by omega)
  have ge := chain_end h1
  unfold lbR
  by_cases hl : i < ml.length
  · rw [if_pos hl]
    obtain ⟨k1, k2⟩ := g2 i hl
    refine ⟨thN_lt k1, ?_⟩
    rw [es_len] at k2
    cases i with
    | zero => exact k2
    | succ i => rw [if_neg (by omega)] at k2; exact k2
  · rw [if_neg hl]
    refine ⟨(SVf_th h2).2.2, ?_⟩
    rw [es_len] at h3
    have e2 : i = ml.length := by omega
    subst e2
    have : lbSt ml ml.length = st := by
      rw [ge]
      cases hm : ml.length with
      | zero => rfl
      | succ n => rw [if_neg (by omega)]; rfl
    rw [this]; exact h3
theorem dX7_letterBound_0 : decode cX7_letterBound 0 = .ok (.bipush (-9), 2) := by decide +kernel
theorem dX7_letterBound_2 : decode cX7_letterBound 2 = .ok (.istore_n 3, 1) := by decide +kernel
theorem dX7_letterBound_3 : decode cX7_letterBound 3 = .ok (.iconst 0, 1) := by decide +kernel
theorem dX7_letterBound_4 : decode cX7_letterBound 4 = .ok (.istore 4, 2) := by decide +kernel
theorem dX7_letterBound_6 : decode cX7_letterBound 6 = .ok (.iload 4, 2) := by decide +kernel
theorem dX7_letterBound_8 : decode cX7_letterBound 8 = .ok (.aload_n 0, 1) := by decide +kernel
theorem dX7_letterBound_9 : decode cX7_letterBound 9 = .ok (.getfield 25, 3) := by decide +kernel
theorem dX7_letterBound_12 : decode cX7_letterBound 12 = .ok (.getfield 184, 3) := by decide +kernel
theorem dX7_letterBound_15 : decode cX7_letterBound 15 = .ok (.if_icmp .gt 91, 3) := by decide +kernel
theorem dX7_letterBound_18 : decode cX7_letterBound 18 = .ok (.iload 4, 2) := by decide +kernel
theorem dX7_letterBound_20 : decode cX7_letterBound 20 = .ok (.iconst 3, 1) := by decide +kernel
theorem dX7_letterBound_21 : decode cX7_letterBound 21 = .ok (.if_icmp .ge 85, 3) := by decide +kernel
theorem dX7_letterBound_24 : decode cX7_letterBound 24 = .ok (.iload 4, 2) := by decide +kernel
theorem dX7_letterBound_26 : decode cX7_letterBound 26 = .ok (.aload_n 0, 1) := by decide +kernel
theorem dX7_letterBound_27 : decode cX7_letterBound 27 = .ok (.getfield 25, 3) := by decide +kernel
theorem dX7_letterBound_30 : decode cX7_letterBound 30 = .ok (.getfield 184, 3) := by decide +kernel
theorem dX7_letterBound_33 : decode cX7_letterBound 33 = .ok (.if_icmp .ge 18, 3) := by decide +kernel
theorem dX7_letterBound_36 : decode cX7_letterBound 36 = .ok (.aload_n 0, 1) := by decide +kernel
theorem dX7_letterBound_37 : decode cX7_letterBound 37 = .ok (.getfield 25, 3) := by decide +kernel
theorem dX7_letterBound_40 : decode cX7_letterBound 40 = .ok (.getfield 268, 3) := by decide +kernel
theorem dX7_letterBound_43 : decode cX7_letterBound 43 = .ok (.iload 4, 2) := by decide +kernel
theorem dX7_letterBound_45 : decode cX7_letterBound 45 = .ok (.invokestatic 92, 3) := by decide +kernel
theorem dX7_letterBound_48 : decode cX7_letterBound 48 = .ok (.goto 4, 3) := by decide +kernel
theorem dX7_letterBound_51 : decode cX7_letterBound 51 = .ok (.iload_n 1, 1) := by decide +kernel
theorem dX7_letterBound_52 : decode cX7_letterBound 52 = .ok (.istore 5, 2) := by decide +kernel
theorem dX7_letterBound_54 : decode cX7_letterBound 54 = .ok (.aload_n 0, 1) := by decide +kernel
theorem dX7_letterBound_55 : decode cX7_letterBound 55 = .ok (.getfield 10, 3) := by decide +kernel
theorem dX7_letterBound_58 : decode cX7_letterBound 58 = .ok (.iload 5, 2) := by decide +kernel
theorem dX7_letterBound_60 : decode cX7_letterBound 60 = .ok (.invokevirtual 106, 3) := by decide +kernel
theorem dX7_letterBound_63 : decode cX7_letterBound 63 = .ok (.iload_n 2, 1) := by decide +kernel
theorem dX7_letterBound_64 : decode cX7_letterBound 64 = .ok (.invokevirtual 271, 3) := by decide +kernel
theorem dX7_letterBound_67 : decode cX7_letterBound 67 = .ok (.istore 6, 2) := by decide +kernel
theorem dX7_letterBound_69 : decode cX7_letterBound 69 = .ok (.iload 6, 2) := by decide +kernel
theorem dX7_letterBound_71 : decode cX7_letterBound 71 = .ok (.ifCond .lt 29, 3) := by decide +kernel
theorem dX7_letterBound_74 : decode cX7_letterBound 74 = .ok (.aload_n 0, 1) := by decide +kernel
theorem dX7_letterBound_75 : decode cX7_letterBound 75 = .ok (.getfield 25, 3) := by decide +kernel
theorem dX7_letterBound_78 : decode cX7_letterBound 78 = .ok (.getfield 170, 3) := by decide +kernel
theorem dX7_letterBound_81 : decode cX7_letterBound 81 = .ok (.aload_n 0, 1) := by decide +kernel
theorem dX7_letterBound_82 : decode cX7_letterBound 82 = .ok (.getfield 25, 3) := by decide +kernel
theorem dX7_letterBound_85 : decode cX7_letterBound 85 = .ok (.getfield 274, 3) := by decide +kernel
theorem dX7_letterBound_88 : decode cX7_letterBound 88 = .ok (.iload 4, 2) := by decide +kernel
theorem dX7_letterBound_90 : decode cX7_letterBound 90 = .ok (.invokestatic 92, 3) := by decide +kernel
theorem dX7_letterBound_93 : decode cX7_letterBound 93 = .ok (.iload 6, 2) := by decide +kernel
theorem dX7_letterBound_95 : decode cX7_letterBound 95 = .ok (.iadd, 1) := by decide +kernel
theorem dX7_letterBound_96 : decode cX7_letterBound 96 = .ok (.invokevirtual 178, 3) := by decide +kernel
theorem dX7_letterBound_99 : decode cX7_letterBound 99 = .ok (.istore_n 3, 1) := by decide +kernel
theorem dX7_letterBound_100 : decode cX7_letterBound 100 = .ok (.iinc 4 1, 3) := by decide +kernel
theorem dX7_letterBound_103 : decode cX7_letterBound 103 = .ok (.goto (-97), 3) := by decide +kernel
theorem dX7_letterBound_106 : decode cX7_letterBound 106 = .ok (.iload_n 3, 1) := by decide +kernel
theorem dX7_letterBound_107 : decode cX7_letterBound 107 = .ok (.ireturn, 1) := by decide +kernel
theorem lp_letterBound {S : St} {K F : Nat → Nat} {D : Mem} {L : List Nat} {ml : List (Nat × Nat)} {e k : Nat} (h : INVK D S K F) (hm : D 79 7 = nI ml.length) (hT : TR D ml) (hl2 : ml.length ≤ 2) (hL : LET D 92 L) (hg : LBG (bk S) L ml e) (hk : k < 4) : ∀ (m : Nat) (i : Nat) (y1 y2 : Option Value), i + m = ml.length + 1 → X 3 138 j_X7_letterBound 6 [some (.ref 0), some (.int (nI e)), some (.int (nI k)), some (.int (lbA (bk S) L ml e k i)), some (.int (nI i)), y1, y2] [] (138, P0, D) (fun x σ => x = [.int (lbA (bk S) L ml e k (ml.length + 1))] ∧ σ = wd D) := by
  intro m
  induction m with
  | zero =>
    intro i y1 y2 hi
    refine X_iload (nx := 8) dX7_letterBound_6 rfl rfl ?_
    refine X_aload_n (nx := 9) dX7_letterBound_8 rfl rfl rfl ?_
    refine M_getP (nx := 12) dX7_letterBound_9 rfl fl_RX7_25 rfl (by first | assumption | rfl | decide | omega) (by first | assumption | rfl | decide | omega) (by first | assumption | rfl | decide | omega) ?_
    refine M_getI (nx := 15) dX7_letterBound_12 rfl fl_RX7_184 rfl (by first | assumption | rfl | decide | omega) (by first | assumption | rfl | decide | omega) ?_
    refine X_top (hm) ?_
    refine X_icmp_gt (tgt := 106) (nx := 18) dX7_letterBound_15 rfl rfl (fun h15 => ?_) (fun h15 => ?_)
    · skip
      refine X_iload_n (nx := 107) dX7_letterBound_106 rfl rfl rfl ?_
      exact Y_reti dX7_letterBound_107 (Or.inl rfl) (by obtain rfl : i = ml.length + 1 := (by omega); rfl) rfl
    · exact absurd h15 (fun q => q (nI_lt (by omega) (by omega)))
  | succ m ih =>
    intro i y1 y2 hi
    obtain ⟨q1, q2⟩ := hg i (by omega)
    have hcm := h.1.2.1.2.1
    obtain ⟨r1, r2, r3, r4, r5⟩ := h.1.1.2.2.2 (lbR ml e i) q1
    have hisR := ((isB.facts (Or.inl rfl : isB 1)).2.2.2.2.2.2 (lbR ml e i) (by omega)).2
    have hra : rt 1 (lbR ml e i) < 138 := hisR.1
    have hrc : (lay (rt 1 (lbR ml e i))).1 = 3 := hisR.2
    have hst : D 95 i = nI (lbSt ml i) := by
      cases i with
      | zero => exact h.2.2.2.2.2
      | succ i => exact (hT i (by omega)).2
    have hsl := r5.1
    have hpl := pl_le (sg_ (bk S) (lbR ml e i))
    have hll := hL.1
    refine X_iload (nx := 8) dX7_letterBound_6 rfl rfl ?_
    refine X_aload_n (nx := 9) dX7_letterBound_8 rfl rfl rfl ?_
    refine M_getP (nx := 12) dX7_letterBound_9 rfl fl_RX7_25 rfl (by first | assumption | rfl | decide | omega) (by first | assumption | rfl | decide | omega) (by first | assumption | rfl | decide | omega) ?_
    refine M_getI (nx := 15) dX7_letterBound_12 rfl fl_RX7_184 rfl (by first | assumption | rfl | decide | omega) (by first | assumption | rfl | decide | omega) ?_
    refine X_top (hm) ?_
    refine X_icmp_gt (tgt := 106) (nx := 18) dX7_letterBound_15 rfl rfl (fun h15 => ?_) (fun h15 => ?_)
    · exact absurd h15 (fun q => absurd ((nI_ltI (by omega) (by omega)).mp q) (by omega))
    · skip
      refine X_iload (nx := 20) dX7_letterBound_18 rfl rfl ?_
      refine X_iconst (v := nI 3) (nx := 21) dX7_letterBound_20 rfl rfl ?_
      refine X_icmp_ge (tgt := 106) (nx := 24) dX7_letterBound_21 rfl rfl (fun h21 => ?_) (fun h21 => ?_)
      · exact absurd h21 (nI_ge (by omega) (by omega))
      · skip
        refine X_iload (nx := 26) dX7_letterBound_24 rfl rfl ?_
        refine X_aload_n (nx := 27) dX7_letterBound_26 rfl rfl rfl ?_
        refine M_getP (nx := 30) dX7_letterBound_27 rfl fl_RX7_25 rfl (by first | assumption | rfl | decide | omega) (by first | assumption | rfl | decide | omega) (by first | assumption | rfl | decide | omega) ?_
        refine M_getI (nx := 33) dX7_letterBound_30 rfl fl_RX7_184 rfl (by first | assumption | rfl | decide | omega) (by first | assumption | rfl | decide | omega) ?_
        refine X_top (hm) ?_
        refine X_icmp_ge (tgt := 51) (nx := 36) dX7_letterBound_33 rfl rfl (fun h33 => ?_) (fun h33 => ?_)
        · skip
          refine X_iload_n (nx := 52) dX7_letterBound_51 rfl rfl rfl ?_
          refine X_top ((congrArg nI (if_neg (fun q => absurd h33 (nI_ge q (by omega))) : lbR ml e i = e)).symm) ?_
          refine X_istore (i := 5) (nx := 54) dX7_letterBound_52 rfl (by decide) rfl (st_s (st_s (st_s (st_s (st_s (st_0)))))) ?_
          refine X_aload_n (nx := 55) dX7_letterBound_54 rfl rfl rfl ?_
          refine M_getP (nx := 58) dX7_letterBound_55 rfl fl_RX7_10 rfl (by first | assumption | rfl | decide | omega) (by first | assumption | rfl | decide | omega) (by first | assumption | rfl | decide | omega) ?_
          refine X_iload (nx := 60) dX7_letterBound_58 rfl rfl ?_
          refine Y_Vr1 (nx := 63) dX7_letterBound_60 rfl ml_RX7_106 kj_X0_at kv_X0_at (sp_X0_at (Or.inl rfl) (i := lbR ml e i) rfl (by omega)) (by first | assumption | rfl | decide | omega) (by first | assumption | rfl | decide | omega) (by decide) rfl (by first | decide | omega) (by exact Nat.le_of_ble_eq_true rfl) ?_
          refine X_iload_n (nx := 64) dX7_letterBound_63 rfl rfl rfl ?_
          refine Y_Vi1 (nx := 67) dX7_letterBound_64 rfl ml_RX7_271 kj_X4_placeOf kv_X4_placeOf (sp_X4_placeOf hisR r5 (by omega) rfl) (by first | assumption | rfl | decide | omega) (by first | assumption | rfl | decide | omega) (by decide) rfl (by first | decide | omega) (by exact Nat.le_of_ble_eq_true rfl) ?_
          refine X_istore (i := 6) (nx := 69) dX7_letterBound_67 rfl (by decide) rfl (st_s (st_s (st_s (st_s (st_s (st_s (st_0))))))) ?_
          refine X_iload (nx := 71) dX7_letterBound_69 rfl rfl ?_
          refine X_if_lt (tgt := 100) (nx := 74) dX7_letterBound_71 rfl rfl (fun h71 => ?_) (fun h71 => ?_)
          · skip
            have hn := opI_lt h71 (fun k hk => by have := (fst_some hk).2.1; omega)
            have hz : lbA (bk S) L ml e k (i + 1) = lbA (bk S) L ml e k i := by rw [lbA, hn]
            rw [← hz]
            refine X_iinc (nx := 103) dX7_letterBound_100 rfl (by decide) rfl (by first | exact ii1 _ | rfl) rfl (st_s (st_s (st_s (st_s (st_0))))) ?_
            refine X_goto (tgt := 6) dX7_letterBound_103 rfl ?_
            exact ih (i + 1) _ _ (by omega)
          · skip
            obtain ⟨q, hq⟩ := Option.isSome_iff_exists.mp (opI_ge h71)
            have hq2 := (fst_some hq).2.1
            rw [hq]
            have hz : lbA (bk S) L ml e k (i + 1) = nI (L.getD (lbSt ml i + q) 0) := by rw [lbA, hq]
            refine X_aload_n (nx := 75) dX7_letterBound_74 rfl rfl rfl ?_
            refine M_getP (nx := 78) dX7_letterBound_75 rfl fl_RX7_25 rfl (by first | assumption | rfl | decide | omega) (by first | assumption | rfl | decide | omega) (by first | assumption | rfl | decide | omega) ?_
            refine M_getP (nx := 81) dX7_letterBound_78 rfl fl_RX7_170 rfl (by first | assumption | rfl | decide | omega) (by first | assumption | rfl | decide | omega) (by first | assumption | rfl | decide | omega) ?_
            refine X_aload_n (nx := 82) dX7_letterBound_81 rfl rfl rfl ?_
            refine M_getP (nx := 85) dX7_letterBound_82 rfl fl_RX7_25 rfl (by first | assumption | rfl | decide | omega) (by first | assumption | rfl | decide | omega) (by first | assumption | rfl | decide | omega) ?_
            refine M_getP (nx := 88) dX7_letterBound_85 rfl fl_RX7_274 rfl (by first | assumption | rfl | decide | omega) (by first | assumption | rfl | decide | omega) (by first | assumption | rfl | decide | omega) ?_
            refine X_iload (nx := 90) dX7_letterBound_88 rfl rfl ?_
            refine Y_Si2 (nx := 93) dX7_letterBound_90 rfl ml_RX7_92 kj_X7_numberAt ks_X7_numberAt (sp_X7_numberAt (i := i) (by decide) (by decide) rfl (by rw [show (lay 95).2 = 3 from by decide]; omega)) (by first | decide | omega) (by exact Nat.le_of_ble_eq_true rfl) ?_
            refine X_top (hst) ?_
            refine X_iload (nx := 95) dX7_letterBound_93 rfl rfl ?_
            refine X_iadd (nx := 96) dX7_letterBound_95 rfl ?_
            refine X_top (nI_add _ _) ?_
            refine Y_Vi1 (nx := 99) dX7_letterBound_96 rfl ml_RX7_178 kj_X2_at kv_X2_at (sp_X2_at (isPa.pl (Or.inl rfl)) (hL.pil (Or.inl rfl)) rfl (by omega)) (by first | assumption | rfl | decide | omega) (by first | assumption | rfl | decide | omega) (by decide) rfl (by first | decide | omega) (by exact Nat.le_of_ble_eq_true rfl) ?_
            refine X_top (hz.symm) ?_
            refine X_istore_n (i := 3) (nx := 100) dX7_letterBound_99 rfl rfl (by decide) rfl (st_s (st_s (st_s (st_0)))) ?_
            refine X_iinc (nx := 103) dX7_letterBound_100 rfl (by decide) rfl (by first | exact ii1 _ | rfl) rfl (st_s (st_s (st_s (st_s (st_0))))) ?_
            refine X_goto (tgt := 6) dX7_letterBound_103 rfl ?_
            exact ih (i + 1) _ _ (by omega)
        · skip
          refine X_aload_n (nx := 37) dX7_letterBound_36 rfl rfl rfl ?_
          refine M_getP (nx := 40) dX7_letterBound_37 rfl fl_RX7_25 rfl (by first | assumption | rfl | decide | omega) (by first | assumption | rfl | decide | omega) (by first | assumption | rfl | decide | omega) ?_
          refine M_getP (nx := 43) dX7_letterBound_40 rfl fl_RX7_268 rfl (by first | assumption | rfl | decide | omega) (by first | assumption | rfl | decide | omega) (by first | assumption | rfl | decide | omega) ?_
          refine X_iload (nx := 45) dX7_letterBound_43 rfl rfl ?_
          refine Y_Si2 (nx := 48) dX7_letterBound_45 rfl ml_RX7_92 kj_X7_numberAt ks_X7_numberAt (sp_X7_numberAt (i := i) (by decide) (by decide) rfl (by rw [show (lay 94).2 = 3 from by decide]; omega)) (by first | decide | omega) (by exact Nat.le_of_ble_eq_true rfl) ?_
          refine X_top (show D 94 i = nI (lbR ml e i) from ((hT i ((nI_ltI (by omega) (by omega)).mp (Int32.not_le.mp h33))).1).trans (congrArg nI (if_pos ((nI_ltI (by omega) (by omega)).mp (Int32.not_le.mp h33))).symm)) ?_
          refine X_goto (tgt := 52) dX7_letterBound_48 rfl ?_
          refine X_istore (i := 5) (nx := 54) dX7_letterBound_52 rfl (by decide) rfl (st_s (st_s (st_s (st_s (st_s (st_0)))))) ?_
          refine X_aload_n (nx := 55) dX7_letterBound_54 rfl rfl rfl ?_
          refine M_getP (nx := 58) dX7_letterBound_55 rfl fl_RX7_10 rfl (by first | assumption | rfl | decide | omega) (by first | assumption | rfl | decide | omega) (by first | assumption | rfl | decide | omega) ?_
          refine X_iload (nx := 60) dX7_letterBound_58 rfl rfl ?_
          refine Y_Vr1 (nx := 63) dX7_letterBound_60 rfl ml_RX7_106 kj_X0_at kv_X0_at (sp_X0_at (Or.inl rfl) (i := lbR ml e i) rfl (by omega)) (by first | assumption | rfl | decide | omega) (by first | assumption | rfl | decide | omega) (by decide) rfl (by first | decide | omega) (by exact Nat.le_of_ble_eq_true rfl) ?_
          refine X_iload_n (nx := 64) dX7_letterBound_63 rfl rfl rfl ?_
          refine Y_Vi1 (nx := 67) dX7_letterBound_64 rfl ml_RX7_271 kj_X4_placeOf kv_X4_placeOf (sp_X4_placeOf hisR r5 (by omega) rfl) (by first | assumption | rfl | decide | omega) (by first | assumption | rfl | decide | omega) (by decide) rfl (by first | decide | omega) (by exact Nat.le_of_ble_eq_true rfl) ?_
          refine X_istore (i := 6) (nx := 69) dX7_letterBound_67 rfl (by decide) rfl (st_s (st_s (st_s (st_s (st_s (st_s (st_0))))))) ?_
          refine X_iload (nx := 71) dX7_letterBound_69 rfl rfl ?_
          refine X_if_lt (tgt := 100) (nx := 74) dX7_letterBound_71 rfl rfl (fun h71 => ?_) (fun h71 => ?_)
          · skip
            have hn := opI_lt h71 (fun k hk => by have := (fst_some hk).2.1; omega)
            have hz : lbA (bk S) L ml e k (i + 1) = lbA (bk S) L ml e k i := by rw [lbA, hn]
            rw [← hz]
            refine X_iinc (nx := 103) dX7_letterBound_100 rfl (by decide) rfl (by first | exact ii1 _ | rfl) rfl (st_s (st_s (st_s (st_s (st_0))))) ?_
            refine X_goto (tgt := 6) dX7_letterBound_103 rfl ?_
            exact ih (i + 1) _ _ (by omega)
          · skip
            obtain ⟨q, hq⟩ := Option.isSome_iff_exists.mp (opI_ge h71)
            have hq2 := (fst_some hq).2.1
            rw [hq]
            have hz : lbA (bk S) L ml e k (i + 1) = nI (L.getD (lbSt ml i + q) 0) := by rw [lbA, hq]
            refine X_aload_n (nx := 75) dX7_letterBound_74 rfl rfl rfl ?_
            refine M_getP (nx := 78) dX7_letterBound_75 rfl fl_RX7_25 rfl (by first | assumption | rfl | decide | omega) (by first | assumption | rfl | decide | omega) (by first | assumption | rfl | decide | omega) ?_
            refine M_getP (nx := 81) dX7_letterBound_78 rfl fl_RX7_170 rfl (by first | assumption | rfl | decide | omega) (by first | assumption | rfl | decide | omega) (by first | assumption | rfl | decide | omega) ?_
            refine X_aload_n (nx := 82) dX7_letterBound_81 rfl rfl rfl ?_
            refine M_getP (nx := 85) dX7_letterBound_82 rfl fl_RX7_25 rfl (by first | assumption | rfl | decide | omega) (by first | assumption | rfl | decide | omega) (by first | assumption | rfl | decide | omega) ?_
            refine M_getP (nx := 88) dX7_letterBound_85 rfl fl_RX7_274 rfl (by first | assumption | rfl | decide | omega) (by first | assumption | rfl | decide | omega) (by first | assumption | rfl | decide | omega) ?_
            refine X_iload (nx := 90) dX7_letterBound_88 rfl rfl ?_
            refine Y_Si2 (nx := 93) dX7_letterBound_90 rfl ml_RX7_92 kj_X7_numberAt ks_X7_numberAt (sp_X7_numberAt (i := i) (by decide) (by decide) rfl (by rw [show (lay 95).2 = 3 from by decide]; omega)) (by first | decide | omega) (by exact Nat.le_of_ble_eq_true rfl) ?_
            refine X_top (hst) ?_
            refine X_iload (nx := 95) dX7_letterBound_93 rfl rfl ?_
            refine X_iadd (nx := 96) dX7_letterBound_95 rfl ?_
            refine X_top (nI_add _ _) ?_
            refine Y_Vi1 (nx := 99) dX7_letterBound_96 rfl ml_RX7_178 kj_X2_at kv_X2_at (sp_X2_at (isPa.pl (Or.inl rfl)) (hL.pil (Or.inl rfl)) rfl (by omega)) (by first | assumption | rfl | decide | omega) (by first | assumption | rfl | decide | omega) (by decide) rfl (by first | decide | omega) (by exact Nat.le_of_ble_eq_true rfl) ?_
            refine X_top (hz.symm) ?_
            refine X_istore_n (i := 3) (nx := 100) dX7_letterBound_99 rfl rfl (by decide) rfl (st_s (st_s (st_s (st_0)))) ?_
            refine X_iinc (nx := 103) dX7_letterBound_100 rfl (by decide) rfl (by first | exact ii1 _ | rfl) rfl (st_s (st_s (st_s (st_s (st_0))))) ?_
            refine X_goto (tgt := 6) dX7_letterBound_103 rfl ?_
            exact ih (i + 1) _ _ (by omega)
theorem sp_X7_letterBound {S : St} {K F : Nat → Nat} {D : Mem} {L : List Nat} {ml : List (Nat × Nat)} {e k : Nat} (h : INVK D S K F) (hm : D 79 7 = nI ml.length) (hT : TR D ml) (hl2 : ml.length ≤ 2) (hL : LET D 92 L) (hg : LBG (bk S) L ml e) (hk : k < 4) : Ei 3 j_X7_letterBound [.ref 0, .int (nI e), .int (nI k)] D ((lbA (bk S) L ml e k (ml.length + 1))) (D) := by
  refine E.start 4 (ls := [some (.ref 0), some (.int (nI e)), some (.int (nI k)), none, none, none, none]) (by decide +kernel) (Nat.le_of_ble_eq_true rfl) rfl (Nat.le_refl _) (Nat.le_refl _) ?_
  refine X_bipush (v := -9) (nx := 2) dX7_letterBound_0 rfl rfl ?_
  refine X_istore_n (i := 3) (nx := 3) dX7_letterBound_2 rfl rfl (by decide) rfl (st_s (st_s (st_s (st_0)))) ?_
  refine X_iconst (v := nI 0) (nx := 4) dX7_letterBound_3 rfl rfl ?_
  refine X_istore (i := 4) (nx := 6) dX7_letterBound_4 rfl (by decide) rfl (st_s (st_s (st_s (st_s (st_0))))) ?_
  exact lp_letterBound h hm hT hl2 hL hg hk _ 0 none none (Nat.zero_add _)
def m_bound (S : St) (x y z : Int32) : Int32 × St :=
  if decide (0 ≤ x ∧ x < 341) = true then if decide (0 ≤ y ∧ y < 4) = true ∧ 0 ≤ z ∧ z ≤ 5 then
    (match (MT S y.toNatClampNeg x.toNatClampNeg).1 with
    | none => no_ S 3
    | some (e, ml, t) => (if z = 5 then nI ml.length else if z = 4 then (if rsB (bk S) e = true then nI t else -9) else lbA (bk S) (pathL x.toNatClampNeg) ml e z.toNatClampNeg (ml.length + 1), S)) else no_ S 2 else no_ S 1
theorem brg_none {D D' : Mem} {S : St} {v p : Nat} {u : Int32} (g : BRG D S (kd_ (bk S)) (fg_ (bk S)) (wS S) v p u D') (hu : u < 0) : (MT S v p).1 = none := by
  have e0 := brg_no g hu
  unfold mtE at e0
  unfold MT
  cases hm : (mt (bk S) (wS S) v p (kd_ (bk S)) (fg_ (bk S))).1 with
  | none => rfl
  | some z => rw [hm] at e0; cases e0
theorem brg_all {D D' : Mem} {S : St} {v p : Nat} {u : Int32} (g : BRG D S (kd_ (bk S)) (fg_ (bk S)) (wS S) v p u D') (hu : ¬ u < 0) : ∃ e ml t, (MT S v p).1 = some (e, ml, t) ∧ u = nI e ∧ e < cm_ (bk S) ∧ D' 79 7 = nI ml.length ∧ D' 79 8 = nI t ∧ TR D' ml ∧ ml.length ≤ 2 ∧ LBG (bk S) (pathL p) ml e := by
  have h1 := brg_yes g hu
  unfold mtE at h1
  cases hm : (mt (bk S) (wS S) v p (kd_ (bk S)) (fg_ (bk S))).1 with
  | none => rw [hm] at h1; cases h1
  | some z =>
    obtain ⟨e, ml, t⟩ := z
    obtain ⟨st, q1, q2, q3, q4, q5⟩ := mt_geo e ml t hm
    obtain ⟨k1, k2, k3, k4, k5⟩ := g.2.2.2.2.2.1 e ml t hm
    refine ⟨e, ml, t, hm, ?_, (SVf_th q3).2.2, k1, k2, k3, k4, lbg_of (w := 0) (t := 0) q1 q3 q4⟩
    rw [g.2.2.2.1]
    unfold mtE
    rw [hm]; rfl
theorem bz4 {z : Int32} (h0 : 0 ≤ z) (h5 : z ≤ 5) (h1 : ¬ z = 5) (h2 : ¬ z = 4) : ¬ z = 5 ∧ ¬ z = 4 ∧ 0 ≤ z ∧ z < 4 := by
  refine ⟨h1, h2, h0, ?_⟩
  rw [Int32.lt_iff_toInt_lt]
  rw [Int32.le_iff_toInt_le] at h5
  have e1 : z.toInt ≠ (5 : Int32).toInt := fun e => h1 (Int32.toInt_inj.mp e)
  have e2 : z.toInt ≠ (4 : Int32).toInt := fun e => h2 (Int32.toInt_inj.mp e)
  have a : (5 : Int32).toInt = 5 := by decide
  have b : (4 : Int32).toInt = 4 := by decide
  omega
theorem dX7_bound_0 : decode cX7_bound 0 = .ok (.iload_n 1, 1) := by decide +kernel
theorem dX7_bound_1 : decode cX7_bound 1 = .ok (.invokestatic 167, 3) := by decide +kernel
theorem dX7_bound_4 : decode cX7_bound 4 = .ok (.ifCond .ne 9, 3) := by decide +kernel
theorem dX7_bound_7 : decode cX7_bound 7 = .ok (.aload_n 0, 1) := by decide +kernel
theorem dX7_bound_8 : decode cX7_bound 8 = .ok (.iconst (-1), 1) := by decide +kernel
theorem dX7_bound_9 : decode cX7_bound 9 = .ok (.invokevirtual 51, 3) := by decide +kernel
theorem dX7_bound_12 : decode cX7_bound 12 = .ok (.ireturn, 1) := by decide +kernel
theorem dX7_bound_13 : decode cX7_bound 13 = .ok (.iload_n 2, 1) := by decide +kernel
theorem dX7_bound_14 : decode cX7_bound 14 = .ok (.invokestatic 115, 3) := by decide +kernel
theorem dX7_bound_17 : decode cX7_bound 17 = .ok (.ifCond .eq 12, 3) := by decide +kernel
theorem dX7_bound_20 : decode cX7_bound 20 = .ok (.iload_n 3, 1) := by decide +kernel
theorem dX7_bound_21 : decode cX7_bound 21 = .ok (.ifCond .lt 8, 3) := by decide +kernel
theorem dX7_bound_24 : decode cX7_bound 24 = .ok (.iload_n 3, 1) := by decide +kernel
theorem dX7_bound_25 : decode cX7_bound 25 = .ok (.iconst 5, 1) := by decide +kernel
theorem dX7_bound_26 : decode cX7_bound 26 = .ok (.if_icmp .le 10, 3) := by decide +kernel
theorem dX7_bound_29 : decode cX7_bound 29 = .ok (.aload_n 0, 1) := by decide +kernel
theorem dX7_bound_30 : decode cX7_bound 30 = .ok (.bipush (-2), 2) := by decide +kernel
theorem dX7_bound_32 : decode cX7_bound 32 = .ok (.invokevirtual 51, 3) := by decide +kernel
theorem dX7_bound_35 : decode cX7_bound 35 = .ok (.ireturn, 1) := by decide +kernel
theorem dX7_bound_36 : decode cX7_bound 36 = .ok (.aload_n 0, 1) := by decide +kernel
theorem dX7_bound_37 : decode cX7_bound 37 = .ok (.getfield 25, 3) := by decide +kernel
theorem dX7_bound_40 : decode cX7_bound 40 = .ok (.iload_n 1, 1) := by decide +kernel
theorem dX7_bound_41 : decode cX7_bound 41 = .ok (.iload_n 2, 1) := by decide +kernel
theorem dX7_bound_42 : decode cX7_bound 42 = .ok (.aload_n 0, 1) := by decide +kernel
theorem dX7_bound_43 : decode cX7_bound 43 = .ok (.getfield 10, 3) := by decide +kernel
theorem dX7_bound_46 : decode cX7_bound 46 = .ok (.invokevirtual 125, 3) := by decide +kernel
theorem dX7_bound_49 : decode cX7_bound 49 = .ok (.invokevirtual 180, 3) := by decide +kernel
theorem dX7_bound_52 : decode cX7_bound 52 = .ok (.istore 4, 2) := by decide +kernel
theorem dX7_bound_54 : decode cX7_bound 54 = .ok (.iload 4, 2) := by decide +kernel
theorem dX7_bound_56 : decode cX7_bound 56 = .ok (.ifCond .ge 10, 3) := by decide +kernel
theorem dX7_bound_59 : decode cX7_bound 59 = .ok (.aload_n 0, 1) := by decide +kernel
theorem dX7_bound_60 : decode cX7_bound 60 = .ok (.bipush (-3), 2) := by decide +kernel
theorem dX7_bound_62 : decode cX7_bound 62 = .ok (.invokevirtual 51, 3) := by decide +kernel
theorem dX7_bound_65 : decode cX7_bound 65 = .ok (.ireturn, 1) := by decide +kernel
theorem dX7_bound_66 : decode cX7_bound 66 = .ok (.iload_n 3, 1) := by decide +kernel
theorem dX7_bound_67 : decode cX7_bound 67 = .ok (.iconst 5, 1) := by decide +kernel
theorem dX7_bound_68 : decode cX7_bound 68 = .ok (.if_icmp .ne 11, 3) := by decide +kernel
theorem dX7_bound_71 : decode cX7_bound 71 = .ok (.aload_n 0, 1) := by decide +kernel
theorem dX7_bound_72 : decode cX7_bound 72 = .ok (.getfield 25, 3) := by decide +kernel
theorem dX7_bound_75 : decode cX7_bound 75 = .ok (.getfield 184, 3) := by decide +kernel
theorem dX7_bound_78 : decode cX7_bound 78 = .ok (.ireturn, 1) := by decide +kernel
theorem dX7_bound_79 : decode cX7_bound 79 = .ok (.iload_n 3, 1) := by decide +kernel
theorem dX7_bound_80 : decode cX7_bound 80 = .ok (.iconst 4, 1) := by decide +kernel
theorem dX7_bound_81 : decode cX7_bound 81 = .ok (.if_icmp .ne 31, 3) := by decide +kernel
theorem dX7_bound_84 : decode cX7_bound 84 = .ok (.aload_n 0, 1) := by decide +kernel
theorem dX7_bound_85 : decode cX7_bound 85 = .ok (.getfield 10, 3) := by decide +kernel
theorem dX7_bound_88 : decode cX7_bound 88 = .ok (.iload 4, 2) := by decide +kernel
theorem dX7_bound_90 : decode cX7_bound 90 = .ok (.invokevirtual 106, 3) := by decide +kernel
theorem dX7_bound_93 : decode cX7_bound 93 = .ok (.invokevirtual 158, 3) := by decide +kernel
theorem dX7_bound_96 : decode cX7_bound 96 = .ok (.ifCond .eq 13, 3) := by decide +kernel
theorem dX7_bound_99 : decode cX7_bound 99 = .ok (.aload_n 0, 1) := by decide +kernel
theorem dX7_bound_100 : decode cX7_bound 100 = .ok (.getfield 25, 3) := by decide +kernel
theorem dX7_bound_103 : decode cX7_bound 103 = .ok (.getfield 187, 3) := by decide +kernel
theorem dX7_bound_106 : decode cX7_bound 106 = .ok (.goto 5, 3) := by decide +kernel
theorem dX7_bound_109 : decode cX7_bound 109 = .ok (.bipush (-9), 2) := by decide +kernel
theorem dX7_bound_111 : decode cX7_bound 111 = .ok (.ireturn, 1) := by decide +kernel
theorem dX7_bound_112 : decode cX7_bound 112 = .ok (.aload_n 0, 1) := by decide +kernel
theorem dX7_bound_113 : decode cX7_bound 113 = .ok (.iload 4, 2) := by decide +kernel
theorem dX7_bound_115 : decode cX7_bound 115 = .ok (.iload_n 3, 1) := by decide +kernel
theorem dX7_bound_116 : decode cX7_bound 116 = .ok (.invokevirtual 190, 3) := by decide +kernel
theorem dX7_bound_119 : decode cX7_bound 119 = .ok (.ireturn, 1) := by decide +kernel
theorem sp_X7_bound {x y z : Int32} {S : St} {D : Mem} (h : INV1 D S) : Rix 21 j_X7_bound [.ref 0, .int x, .int y, .int z] D (fun u D' => CK D (m_bound S x y z) u D') := by
  refine E.start 1 (ls := [some (.ref 0), some (.int x), some (.int y), some (.int z), none]) (by decide +kernel) (Nat.le_of_ble_eq_true rfl) rfl (Nat.le_refl _) (Nat.le_refl _) ?_
  have hcm := h.1.2.1.2.1
  refine X_iload_n (nx := 1) dX7_bound_0 rfl rfl rfl ?_
  refine Y_Si1 (nx := 4) dX7_bound_1 rfl ml_RX7_167 kj_X7_isPath ks_X7_isPath (sp_X7_isPath) (by first | decide | omega) (by exact Nat.le_of_ble_eq_true rfl) ?_
  refine X_if_ne (tgt := 13) (nx := 7) dX7_bound_4 rfl rfl (fun h4 => ?_) (fun h4 => ?_)
  · skip
    have c4 := b2i_t.mp h4
    obtain ⟨p, hp, rfl⟩ := ex_nI (N := 341) (n := 341) rfl (by decide) (of_decide_eq_true c4)
    have k4 : (nI p).toNatClampNeg = p := nI_clamp (by omega)
    refine X_iload_n (nx := 14) dX7_bound_13 rfl rfl rfl ?_
    refine Y_Si1 (nx := 17) dX7_bound_14 rfl ml_RX7_115 kj_X7_isVerb ks_X7_isVerb (sp_X7_isVerb) (by first | decide | omega) (by exact Nat.le_of_ble_eq_true rfl) ?_
    refine X_if_eq (tgt := 29) (nx := 20) dX7_bound_17 rfl rfl (fun h17 => ?_) (fun h17 => ?_)
    · skip
      have n17 := nb h17
      refine X_aload_n (nx := 30) dX7_bound_29 rfl rfl rfl ?_
      refine X_bipush (v := -2) (nx := 32) dX7_bound_30 rfl rfl ?_
      refine Y_Vi1 (nx := 35) dX7_bound_32 rfl ml_RX7_51 kj_X7_refuse kv_X7_refuse (sp_X7_refuse (k := 2) rfl (by omega) (by omega)) (by first | assumption | rfl | decide | omega) (by first | assumption | rfl | decide | omega) (by decide) rfl (by first | decide | omega) (by exact Nat.le_of_ble_eq_true rfl) ?_
      exact Z_reti dX7_bound_35 (Or.inl rfl) (by unfold m_bound; rw [if_pos c4, if_neg (fun q => by first | exact n17 q.1 | exact h26 q.2.2 | exact Int32.not_lt.mpr q.2.1 h21 | exact h26 (Int32.not_lt.mpr q.2.2) | exact Int32.not_lt.mpr q.2.2 h26 | exact Int32.not_lt.mpr q.2.2 (Int32.not_le.mp h26))]; exact ck_no (k := 2) h Fr.rf (by omega) (by omega))
    · skip
      have c17 := b2i_t.mp h17
      obtain ⟨v, hv, rfl⟩ := ex_nI (N := 4) (n := 4) rfl (by decide) (of_decide_eq_true c17)
      have k17 : (nI v).toNatClampNeg = v := nI_clamp (by omega)
      refine X_iload_n (nx := 21) dX7_bound_20 rfl rfl rfl ?_
      refine X_if_lt (tgt := 29) (nx := 24) dX7_bound_21 rfl rfl (fun h21 => ?_) (fun h21 => ?_)
      · skip
        refine X_aload_n (nx := 30) dX7_bound_29 rfl rfl rfl ?_
        refine X_bipush (v := -2) (nx := 32) dX7_bound_30 rfl rfl ?_
        refine Y_Vi1 (nx := 35) dX7_bound_32 rfl ml_RX7_51 kj_X7_refuse kv_X7_refuse (sp_X7_refuse (k := 2) rfl (by omega) (by omega)) (by first | assumption | rfl | decide | omega) (by first | assumption | rfl | decide | omega) (by decide) rfl (by first | decide | omega) (by exact Nat.le_of_ble_eq_true rfl) ?_
        exact Z_reti dX7_bound_35 (Or.inl rfl) (by unfold m_bound; rw [if_pos c4, if_neg (fun q => by first | exact n17 q.1 | exact h26 q.2.2 | exact Int32.not_lt.mpr q.2.1 h21 | exact h26 (Int32.not_lt.mpr q.2.2) | exact Int32.not_lt.mpr q.2.2 h26 | exact Int32.not_lt.mpr q.2.2 (Int32.not_le.mp h26))]; exact ck_no (k := 2) h Fr.rf (by omega) (by omega))
      · skip
        refine X_iload_n (nx := 25) dX7_bound_24 rfl rfl rfl ?_
        refine X_iconst (v := 5) (nx := 26) dX7_bound_25 rfl rfl ?_
        refine X_icmp_le (tgt := 36) (nx := 29) dX7_bound_26 rfl rfl (fun h26 => ?_) (fun h26 => ?_)
        · skip
          refine X_aload_n (nx := 37) dX7_bound_36 rfl rfl rfl ?_
          refine M_getP (nx := 40) dX7_bound_37 rfl fl_RX7_25 rfl (by first | assumption | rfl | decide | omega) (by first | assumption | rfl | decide | omega) (by first | assumption | rfl | decide | omega) ?_
          refine X_iload_n (nx := 41) dX7_bound_40 rfl rfl rfl ?_
          refine X_iload_n (nx := 42) dX7_bound_41 rfl rfl rfl ?_
          refine X_aload_n (nx := 43) dX7_bound_42 rfl rfl rfl ?_
          refine M_getP (nx := 46) dX7_bound_43 rfl fl_RX7_10 rfl (by first | assumption | rfl | decide | omega) (by first | assumption | rfl | decide | omega) (by first | assumption | rfl | decide | omega) ?_
          refine Y_Vi0 (nx := 49) dX7_bound_46 rfl ml_RX7_125 kj_X0_thereBits kv_X0_thereBits (sp_X0_thereBits (Or.inl rfl) h.1.1) (by first | assumption | rfl | decide | omega) (by first | assumption | rfl | decide | omega) (by decide) rfl (by first | decide | omega) (by exact Nat.le_of_ble_eq_true rfl) ?_
          refine Z_Vi3 (nx := 52) dX7_bound_49 rfl ml_RX7_180 kj_X6_bring kv_X6_bring (sp_X6_bring h rfl hp rfl hv rfl (wS_lt S)) (by first | assumption | rfl | decide | omega) (by first | assumption | rfl | decide | omega) (by decide) rfl (by first | decide | omega) (by exact Nat.le_of_ble_eq_true rfl) (fun u49 D49 g49 => ?_)
          refine X_istore (i := 4) (nx := 54) dX7_bound_52 rfl (by decide) rfl (st_s (st_s (st_s (st_s (st_0))))) ?_
          refine X_iload (nx := 56) dX7_bound_54 rfl rfl ?_
          refine X_if_ge (tgt := 66) (nx := 59) dX7_bound_56 rfl rfl (fun h56 => ?_) (fun h56 => ?_)
          · skip
            obtain ⟨e, ml, t, e1, e2, e3, e4, e5, e6, e7, e8⟩ := brg_all g49 (Int32.not_lt.mpr h56)
            subst e2
            obtain ⟨r1, r2, r3, r4, r5⟩ := g49.1.1.1.2.2.2 e e3
            have hisR := ((isB.facts (Or.inl rfl : isB 1)).2.2.2.2.2.2 e (by omega)).2
            have hra : rt 1 e < 138 := hisR.1
            have hrc : (lay (rt 1 e)).1 = 3 := hisR.2
            refine X_iload_n (nx := 67) dX7_bound_66 rfl rfl rfl ?_
            refine X_iconst (v := 5) (nx := 68) dX7_bound_67 rfl rfl ?_
            refine X_icmp_ne (tgt := 79) (nx := 71) dX7_bound_68 rfl rfl (fun h68 => ?_) (fun h68 => ?_)
            · skip
              refine X_iload_n (nx := 80) dX7_bound_79 rfl rfl rfl ?_
              refine X_iconst (v := 4) (nx := 81) dX7_bound_80 rfl rfl ?_
              refine X_icmp_ne (tgt := 112) (nx := 84) dX7_bound_81 rfl rfl (fun h81 => ?_) (fun h81 => ?_)
              · skip
                have hz4 : ¬ z = 5 ∧ ¬ z = 4 ∧ 0 ≤ z ∧ z < 4 := bz4 (Int32.not_lt.mp h21) h26 h68 h81
                obtain ⟨k, hk, rfl⟩ := ex_nI (x := z) (N := 4) (n := 4) rfl (by decide) hz4.2.2
                have kk : (nI k).toNatClampNeg = k := nI_clamp (by omega)
                refine X_aload_n (nx := 113) dX7_bound_112 rfl rfl rfl ?_
                refine X_iload (nx := 115) dX7_bound_113 rfl rfl ?_
                refine X_iload_n (nx := 116) dX7_bound_115 rfl rfl rfl ?_
                refine Y_Vi2 (nx := 119) dX7_bound_116 rfl ml_RX7_190 kj_X7_letterBound kv_X7_letterBound (sp_X7_letterBound g49.1 e4 e6 e7 g49.2.2.2.2.2.2 e8 hk) (by first | assumption | rfl | decide | omega) (by first | assumption | rfl | decide | omega) (by decide) rfl (by first | decide | omega) (by exact Nat.le_of_ble_eq_true rfl) ?_
                exact Z_reti dX7_bound_119 (Or.inl rfl) (by unfold m_bound; rw [if_pos c4, if_pos ⟨c17, Int32.not_lt.mp h21, h26⟩, k4, k17, e1]; dsimp only; rw [if_neg hz4.1, if_neg hz4.2.1, kk]; exact ck_s rfl g49.1 g49.2.1.sc)
              · skip
                refine X_aload_n (nx := 85) dX7_bound_84 rfl rfl rfl ?_
                refine M_getP (nx := 88) dX7_bound_85 rfl fl_RX7_10 rfl (by first | assumption | rfl | decide | omega) (by first | assumption | rfl | decide | omega) (by first | assumption | rfl | decide | omega) ?_
                refine X_iload (nx := 90) dX7_bound_88 rfl rfl ?_
                refine Y_Vr1 (nx := 93) dX7_bound_90 rfl ml_RX7_106 kj_X0_at kv_X0_at (sp_X0_at (Or.inl rfl) (i := e) rfl (by omega)) (by first | assumption | rfl | decide | omega) (by first | assumption | rfl | decide | omega) (by decide) rfl (by first | decide | omega) (by exact Nat.le_of_ble_eq_true rfl) ?_
                refine Y_Vi0 (nx := 96) dX7_bound_93 rfl ml_RX7_158 kj_X4_hasRest kv_X4_hasRest (sp_X4_hasRest hisR r5) (by first | assumption | rfl | decide | omega) (by first | assumption | rfl | decide | omega) (by decide) rfl (by first | decide | omega) (by exact Nat.le_of_ble_eq_true rfl) ?_
                refine X_if_eq (tgt := 109) (nx := 99) dX7_bound_96 rfl rfl (fun h96 => ?_) (fun h96 => ?_)
                · skip
                  refine X_bipush (v := -9) (nx := 111) dX7_bound_109 rfl rfl ?_
                  exact Z_reti dX7_bound_111 (Or.inl rfl) (by unfold m_bound; rw [if_pos c4, if_pos ⟨c17, Int32.not_lt.mp h21, h26⟩, k4, k17, e1]; dsimp only; rw [if_neg h68, if_pos (by first | exact h81 | exact Classical_nn h81)]; unfold rsB; first | (rw [if_pos (b2i_t.mp h96)]; exact ck_s e5 g49.1 g49.2.1.sc) | (rw [if_neg (nb h96)]; exact ck_s rfl g49.1 g49.2.1.sc))
                · skip
                  refine X_aload_n (nx := 100) dX7_bound_99 rfl rfl rfl ?_
                  refine M_getP (nx := 103) dX7_bound_100 rfl fl_RX7_25 rfl (by first | assumption | rfl | decide | omega) (by first | assumption | rfl | decide | omega) (by first | assumption | rfl | decide | omega) ?_
                  refine M_getI (nx := 106) dX7_bound_103 rfl fl_RX7_187 rfl (by first | assumption | rfl | decide | omega) (by first | assumption | rfl | decide | omega) ?_
                  refine X_goto (tgt := 111) dX7_bound_106 rfl ?_
                  exact Z_reti dX7_bound_111 (Or.inl rfl) (by unfold m_bound; rw [if_pos c4, if_pos ⟨c17, Int32.not_lt.mp h21, h26⟩, k4, k17, e1]; dsimp only; rw [if_neg h68, if_pos (by first | exact h81 | exact Classical_nn h81)]; unfold rsB; first | (rw [if_pos (b2i_t.mp h96)]; exact ck_s e5 g49.1 g49.2.1.sc) | (rw [if_neg (nb h96)]; exact ck_s rfl g49.1 g49.2.1.sc))
            · skip
              refine X_aload_n (nx := 72) dX7_bound_71 rfl rfl rfl ?_
              refine M_getP (nx := 75) dX7_bound_72 rfl fl_RX7_25 rfl (by first | assumption | rfl | decide | omega) (by first | assumption | rfl | decide | omega) (by first | assumption | rfl | decide | omega) ?_
              refine M_getI (nx := 78) dX7_bound_75 rfl fl_RX7_184 rfl (by first | assumption | rfl | decide | omega) (by first | assumption | rfl | decide | omega) ?_
              exact Z_reti dX7_bound_78 (Or.inl rfl) (by unfold m_bound; rw [if_pos c4, if_pos ⟨c17, Int32.not_lt.mp h21, h26⟩, k4, k17, e1]; dsimp only; rw [if_pos (by first | exact h68 | exact Classical_nn h68)]; exact ck_s e4 g49.1 g49.2.1.sc)
          · skip
            refine X_aload_n (nx := 60) dX7_bound_59 rfl rfl rfl ?_
            refine X_bipush (v := -3) (nx := 62) dX7_bound_60 rfl rfl ?_
            refine Y_Vi1 (nx := 65) dX7_bound_62 rfl ml_RX7_51 kj_X7_refuse kv_X7_refuse (sp_X7_refuse (k := 3) rfl (by omega) (by omega)) (by first | assumption | rfl | decide | omega) (by first | assumption | rfl | decide | omega) (by decide) rfl (by first | decide | omega) (by exact Nat.le_of_ble_eq_true rfl) ?_
            exact Z_reti dX7_bound_65 (Or.inl rfl) (by unfold m_bound; rw [if_pos c4, if_pos ⟨c17, Int32.not_lt.mp h21, h26⟩, k4, k17]; rw [brg_none g49 (Int32.not_le.mp h56)]; exact ck_no (k := 3) g49.1 g49.2.1.sc (by omega) (by omega))
        · skip
          refine X_aload_n (nx := 30) dX7_bound_29 rfl rfl rfl ?_
          refine X_bipush (v := -2) (nx := 32) dX7_bound_30 rfl rfl ?_
          refine Y_Vi1 (nx := 35) dX7_bound_32 rfl ml_RX7_51 kj_X7_refuse kv_X7_refuse (sp_X7_refuse (k := 2) rfl (by omega) (by omega)) (by first | assumption | rfl | decide | omega) (by first | assumption | rfl | decide | omega) (by decide) rfl (by first | decide | omega) (by exact Nat.le_of_ble_eq_true rfl) ?_
          exact Z_reti dX7_bound_35 (Or.inl rfl) (by unfold m_bound; rw [if_pos c4, if_neg (fun q => by first | exact n17 q.1 | exact h26 q.2.2 | exact Int32.not_lt.mpr q.2.1 h21 | exact h26 (Int32.not_lt.mpr q.2.2) | exact Int32.not_lt.mpr q.2.2 h26 | exact Int32.not_lt.mpr q.2.2 (Int32.not_le.mp h26))]; exact ck_no (k := 2) h Fr.rf (by omega) (by omega))
  · skip
    have n4 := nb h4
    refine X_aload_n (nx := 8) dX7_bound_7 rfl rfl rfl ?_
    refine X_iconst (v := -1) (nx := 9) dX7_bound_8 rfl rfl ?_
    refine Y_Vi1 (nx := 12) dX7_bound_9 rfl ml_RX7_51 kj_X7_refuse kv_X7_refuse (sp_X7_refuse (k := 1) rfl (by omega) (by omega)) (by first | assumption | rfl | decide | omega) (by first | assumption | rfl | decide | omega) (by decide) rfl (by first | decide | omega) (by exact Nat.le_of_ble_eq_true rfl) ?_
    exact Z_reti dX7_bound_12 (Or.inl rfl) (by unfold m_bound; rw [if_neg n4]; exact ck_no (k := 1) h Fr.rf (by omega) (by omega))
