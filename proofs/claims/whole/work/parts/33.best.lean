/-! KINDS TRIED -/
def up1 (f : Nat → Nat) (R k : Nat) : Nat → Nat := fun i => if i = R then k else f i
theorem up1_up1 {f : Nat → Nat} {R k l : Nat} : up1 (up1 f R k) R l = up1 f R l := by
  funext i; unfold up1; split <;> rfl
theorem up1_id {f : Nat → Nat} {R : Nat} : up1 f R (f R) = f := by
  funext i; unfold up1; split <;> simp [*]
theorem invk_K {D : Mem} {S : St} {K F : Nat → Nat} {R k : Nat} (h : INVK D S K F) (hk : k ≤ 5) : INVK (up2 D 89 R (nI k)) S (up1 K R k) F := by
  obtain ⟨h1, h2, g1, g2, g3, g4⟩ := h
  refine ⟨h1.fr (fun b _ _ => up2_ne (by omega)), h2.fr (up2_ne (by omega)) (fun b _ _ => up2_ne (by omega)) (up2_ne (by omega)), g1.fr (fun b _ _ => up2_ne (by omega)) (by rw [up2_ne (by omega)]), fun i hi => ?_, by rw [up2_ne (by omega)]; exact g3, by rw [up2_ne (by omega)]; exact g4⟩
  obtain ⟨q1, q2, q3, q4⟩ := g2 i hi
  unfold up1
  by_cases e : i = R
  · subst e; simp only [if_pos rfl]; exact ⟨up2_same, (up2_other (by omega)).trans q2, hk, q4⟩
  · simp only [if_neg e]; exact ⟨(up2_other (by omega)).trans q1, (up2_other (by omega)).trans q2, q3, q4⟩
theorem invk_F {D : Mem} {S : St} {K F : Nat → Nat} {R k : Nat} (h : INVK D S K F) (hk : k ≤ 9) : INVK (up2 D 90 R (nI k)) S K (up1 F R k) := by
  obtain ⟨h1, h2, g1, g2, g3, g4⟩ := h
  refine ⟨h1.fr (fun b _ _ => up2_ne (by omega)), h2.fr (up2_ne (by omega)) (fun b _ _ => up2_ne (by omega)) (up2_ne (by omega)), g1.fr (fun b _ _ => up2_ne (by omega)) (by rw [up2_ne (by omega)]), fun i hi => ?_, by rw [up2_ne (by omega)]; exact g3, by rw [up2_ne (by omega)]; exact g4⟩
  obtain ⟨q1, q2, q3, q4⟩ := g2 i hi
  unfold up1
  by_cases e : i = R
  · subst e; simp only [if_pos rfl]; exact ⟨(up2_other (by omega)).trans q1, up2_same, q3, hk⟩
  · simp only [if_neg e]; exact ⟨(up2_other (by omega)).trans q1, (up2_other (by omega)).trans q2, q3, q4⟩
def wiK (S : St) (R k : Nat) : Bool := (fns S (up1 (kd_ (bk S)) R k) (fg_ (bk S)) 0).isNone
def wiF (S : St) (R k : Nat) : Bool := (fns S (kd_ (bk S)) (up1 (fg_ (bk S)) R k) 0).isNone
def m_whatIs (S : St) (x y : Int32) : Int32 × St :=
  if decide (0 ≤ x ∧ x < 3) = true then if decide (y = 0 ∨ y = 1) = true then (if y = 0 then nI (mkn (wiK S x.toNatClampNeg) 6) else nI (mkn (wiF S x.toNatClampNeg) 10), S) else no_ S 2 else no_ S 1
theorem fns_lt {S : St} {K F : Nat → Nat} {v : Nat} (hl : (rw_ S).length ≤ 30) : ∀ k, fns S K F v = some k → k < 2147483648 := fun k hk => by have := (fst_some hk).2.1; omega
theorem fns_n {S : St} {K F : Nat → Nat} {v : Nat} {u : Int32} (hl : (rw_ S).length ≤ 30) (hu : u = opI (fns S K F v)) (h : ¬ 0 ≤ u) : (fns S K F v).isNone = true := by
  rw [opI_lt (hu ▸ Int32.not_le.mp h) (fns_lt hl)]; rfl
theorem fns_s {S : St} {K F : Nat → Nat} {v : Nat} {u : Int32} (hu : u = opI (fns S K F v)) (h : 0 ≤ u) : (fns S K F v).isNone = false := by
  have := opI_ge (o := fns S K F v) (by rw [← hu]; exact Int32.not_lt.mpr h)
  cases hf : fns S K F v with
  | none => rw [hf] at this; cases this
  | some k => rfl
theorem dX7_whatIs_0 : decode cX7_whatIs 0 = .ok (.iload_n 1, 1) := by decide +kernel
theorem dX7_whatIs_1 : decode cX7_whatIs 1 = .ok (.invokestatic 85, 3) := by decide +kernel
theorem dX7_whatIs_4 : decode cX7_whatIs 4 = .ok (.ifCond .ne 9, 3) := by decide +kernel
theorem dX7_whatIs_7 : decode cX7_whatIs 7 = .ok (.aload_n 0, 1) := by decide +kernel
theorem dX7_whatIs_8 : decode cX7_whatIs 8 = .ok (.iconst (-1), 1) := by decide +kernel
theorem dX7_whatIs_9 : decode cX7_whatIs 9 = .ok (.invokevirtual 51, 3) := by decide +kernel
theorem dX7_whatIs_12 : decode cX7_whatIs 12 = .ok (.ireturn, 1) := by decide +kernel
theorem dX7_whatIs_13 : decode cX7_whatIs 13 = .ok (.iload_n 2, 1) := by decide +kernel
theorem dX7_whatIs_14 : decode cX7_whatIs 14 = .ok (.invokestatic 197, 3) := by decide +kernel
theorem dX7_whatIs_17 : decode cX7_whatIs 17 = .ok (.ifCond .ne 10, 3) := by decide +kernel
theorem dX7_whatIs_20 : decode cX7_whatIs 20 = .ok (.aload_n 0, 1) := by decide +kernel
theorem dX7_whatIs_21 : decode cX7_whatIs 21 = .ok (.bipush (-2), 2) := by decide +kernel
theorem dX7_whatIs_23 : decode cX7_whatIs 23 = .ok (.invokevirtual 51, 3) := by decide +kernel
theorem dX7_whatIs_26 : decode cX7_whatIs 26 = .ok (.ireturn, 1) := by decide +kernel
theorem dX7_whatIs_27 : decode cX7_whatIs 27 = .ok (.iload_n 2, 1) := by decide +kernel
theorem dX7_whatIs_28 : decode cX7_whatIs 28 = .ok (.ifCond .ne 16, 3) := by decide +kernel
theorem dX7_whatIs_31 : decode cX7_whatIs 31 = .ok (.aload_n 0, 1) := by decide +kernel
theorem dX7_whatIs_32 : decode cX7_whatIs 32 = .ok (.getfield 25, 3) := by decide +kernel
theorem dX7_whatIs_35 : decode cX7_whatIs 35 = .ok (.getfield 76, 3) := by decide +kernel
theorem dX7_whatIs_38 : decode cX7_whatIs 38 = .ok (.getfield 231, 3) := by decide +kernel
theorem dX7_whatIs_41 : decode cX7_whatIs 41 = .ok (.goto 13, 3) := by decide +kernel
theorem dX7_whatIs_44 : decode cX7_whatIs 44 = .ok (.aload_n 0, 1) := by decide +kernel
theorem dX7_whatIs_45 : decode cX7_whatIs 45 = .ok (.getfield 25, 3) := by decide +kernel
theorem dX7_whatIs_48 : decode cX7_whatIs 48 = .ok (.getfield 76, 3) := by decide +kernel
theorem dX7_whatIs_51 : decode cX7_whatIs 51 = .ok (.getfield 249, 3) := by decide +kernel
theorem dX7_whatIs_54 : decode cX7_whatIs 54 = .ok (.astore_n 3, 1) := by decide +kernel
theorem dX7_whatIs_55 : decode cX7_whatIs 55 = .ok (.iload_n 2, 1) := by decide +kernel
theorem dX7_whatIs_56 : decode cX7_whatIs 56 = .ok (.ifCond .ne 8, 3) := by decide +kernel
theorem dX7_whatIs_59 : decode cX7_whatIs 59 = .ok (.bipush 6, 2) := by decide +kernel
theorem dX7_whatIs_61 : decode cX7_whatIs 61 = .ok (.goto 5, 3) := by decide +kernel
theorem dX7_whatIs_64 : decode cX7_whatIs 64 = .ok (.bipush 10, 2) := by decide +kernel
theorem dX7_whatIs_66 : decode cX7_whatIs 66 = .ok (.istore 4, 2) := by decide +kernel
theorem dX7_whatIs_68 : decode cX7_whatIs 68 = .ok (.aload_n 3, 1) := by decide +kernel
theorem dX7_whatIs_69 : decode cX7_whatIs 69 = .ok (.iload_n 1, 1) := by decide +kernel
theorem dX7_whatIs_70 : decode cX7_whatIs 70 = .ok (.invokestatic 92, 3) := by decide +kernel
theorem dX7_whatIs_73 : decode cX7_whatIs 73 = .ok (.istore 5, 2) := by decide +kernel
theorem dX7_whatIs_75 : decode cX7_whatIs 75 = .ok (.iconst 0, 1) := by decide +kernel
theorem dX7_whatIs_76 : decode cX7_whatIs 76 = .ok (.istore 6, 2) := by decide +kernel
theorem dX7_whatIs_78 : decode cX7_whatIs 78 = .ok (.iconst 0, 1) := by decide +kernel
theorem dX7_whatIs_79 : decode cX7_whatIs 79 = .ok (.istore 7, 2) := by decide +kernel
theorem dX7_whatIs_81 : decode cX7_whatIs 81 = .ok (.iload 7, 2) := by decide +kernel
theorem dX7_whatIs_83 : decode cX7_whatIs 83 = .ok (.iload 4, 2) := by decide +kernel
theorem dX7_whatIs_85 : decode cX7_whatIs 85 = .ok (.if_icmp .ge 33, 3) := by decide +kernel
theorem dX7_whatIs_88 : decode cX7_whatIs 88 = .ok (.aload_n 3, 1) := by decide +kernel
theorem dX7_whatIs_89 : decode cX7_whatIs 89 = .ok (.iload_n 1, 1) := by decide +kernel
theorem dX7_whatIs_90 : decode cX7_whatIs 90 = .ok (.iload 7, 2) := by decide +kernel
theorem dX7_whatIs_92 : decode cX7_whatIs 92 = .ok (.invokestatic 99, 3) := by decide +kernel
theorem dX7_whatIs_95 : decode cX7_whatIs 95 = .ok (.aload_n 0, 1) := by decide +kernel
theorem dX7_whatIs_96 : decode cX7_whatIs 96 = .ok (.iconst 0, 1) := by decide +kernel
theorem dX7_whatIs_97 : decode cX7_whatIs 97 = .ok (.invokevirtual 250, 3) := by decide +kernel
theorem dX7_whatIs_100 : decode cX7_whatIs 100 = .ok (.ifCond .ge 12, 3) := by decide +kernel
theorem dX7_whatIs_103 : decode cX7_whatIs 103 = .ok (.iload 6, 2) := by decide +kernel
theorem dX7_whatIs_105 : decode cX7_whatIs 105 = .ok (.iconst 1, 1) := by decide +kernel
theorem dX7_whatIs_106 : decode cX7_whatIs 106 = .ok (.iload 7, 2) := by decide +kernel
theorem dX7_whatIs_108 : decode cX7_whatIs 108 = .ok (.ishl, 1) := by decide +kernel
theorem dX7_whatIs_109 : decode cX7_whatIs 109 = .ok (.ior, 1) := by decide +kernel
theorem dX7_whatIs_110 : decode cX7_whatIs 110 = .ok (.istore 6, 2) := by decide +kernel
theorem dX7_whatIs_112 : decode cX7_whatIs 112 = .ok (.iinc 7 1, 3) := by decide +kernel
theorem dX7_whatIs_115 : decode cX7_whatIs 115 = .ok (.goto (-34), 3) := by decide +kernel
theorem dX7_whatIs_118 : decode cX7_whatIs 118 = .ok (.aload_n 3, 1) := by decide +kernel
theorem dX7_whatIs_119 : decode cX7_whatIs 119 = .ok (.iload_n 1, 1) := by decide +kernel
theorem dX7_whatIs_120 : decode cX7_whatIs 120 = .ok (.iload 5, 2) := by decide +kernel
theorem dX7_whatIs_122 : decode cX7_whatIs 122 = .ok (.invokestatic 99, 3) := by decide +kernel
theorem dX7_whatIs_125 : decode cX7_whatIs 125 = .ok (.iload 6, 2) := by decide +kernel
theorem dX7_whatIs_127 : decode cX7_whatIs 127 = .ok (.ireturn, 1) := by decide +kernel
theorem lp_wiK {S : St} {D : Mem} {R : Nat} {y : Int32} (hR : R < 3) : ∀ (m : Nat) (i k0 : Nat) (D1 : Mem), i + m = 6 → INVK D1 S (up1 (kd_ (bk S)) R k0) (fg_ (bk S)) → Fr inC D D1 → X 22 138 j_X7_whatIs 81 [some (.ref 0), some (.int (nI R)), some (.int y), some (.ref 89), some (.int (nI 6)), some (.int (nI (kd_ (bk S) R))), some (.int (nI (mkn (wiK S R) i))), some (.int (nI i))] [] (138, P0, D1) (fun x σ => ∃ (u : Int32) (D' : Mem), x = [.int u] ∧ σ = wd D' ∧ CK D (nI (mkn (wiK S R) 6), S) u D') := by
  intro m
  induction m with
  | zero =>
    intro i k0 D1 hi h hf
    have hly : (lay 89).2 = 3 := by decide
    have hold : kd_ (bk S) R ≤ 5 := (h.1.2.1.1 R hR).1
    refine X_iload (nx := 83) dX7_whatIs_81 rfl rfl ?_
    refine X_iload (nx := 85) dX7_whatIs_83 rfl rfl ?_
    refine X_icmp_ge (tgt := 118) (nx := 88) dX7_whatIs_85 rfl rfl (fun h85 => ?_) (fun h85 => ?_)
    · skip
      refine X_aload_n (nx := 119) dX7_whatIs_118 rfl rfl rfl ?_
      refine X_iload_n (nx := 120) dX7_whatIs_119 rfl rfl rfl ?_
      refine X_iload (nx := 122) dX7_whatIs_120 rfl rfl ?_
      refine Y_Sv3 (nx := 125) dX7_whatIs_122 rfl ml_RX7_99 kj_X7_put ks_X7_put (sp_X7_put (i := R) (by decide) (by decide) rfl (by omega)) (by first | decide | omega) (by exact Nat.le_of_ble_eq_true rfl) ?_
      refine X_iload (nx := 127) dX7_whatIs_125 rfl rfl ?_
      exact Z_reti dX7_whatIs_127 (Or.inl rfl) (by obtain rfl : i = 6 := (by omega); exact ck_s rfl (by have q := invk_K (R := R) (k := (kd_ (bk S) R)) h (by omega); rw [up1_up1, up1_id] at q; exact q) (hf.tr (Fr.up (by unfold inC; omega))))
    · exact absurd h85 (fun q => q (nI_le (by omega) (by omega)))
  | succ m ih =>
    intro i k0 D1 hi h hf
    have hly : (lay 89).2 = 3 := by decide
    have hl : (rw_ S).length ≤ 30 := h.2.1.2.2.1.1
    refine X_iload (nx := 83) dX7_whatIs_81 rfl rfl ?_
    refine X_iload (nx := 85) dX7_whatIs_83 rfl rfl ?_
    refine X_icmp_ge (tgt := 118) (nx := 88) dX7_whatIs_85 rfl rfl (fun h85 => ?_) (fun h85 => ?_)
    · exact absurd h85 (nI_ge (by omega) (by omega))
    · skip
      refine X_aload_n (nx := 89) dX7_whatIs_88 rfl rfl rfl ?_
      refine X_iload_n (nx := 90) dX7_whatIs_89 rfl rfl rfl ?_
      refine X_iload (nx := 92) dX7_whatIs_90 rfl rfl ?_
      refine Y_Sv3 (nx := 95) dX7_whatIs_92 rfl ml_RX7_99 kj_X7_put ks_X7_put (sp_X7_put (i := R) (by decide) (by decide) rfl (by omega)) (by first | decide | omega) (by exact Nat.le_of_ble_eq_true rfl) ?_
      have hq := invk_K (R := R) (k := i) h (by omega)
      rw [up1_up1] at hq
      refine X_aload_n (nx := 96) dX7_whatIs_95 rfl rfl rfl ?_
      refine X_iconst (v := nI 0) (nx := 97) dX7_whatIs_96 rfl rfl ?_
      refine Z_Vi1 (nx := 100) dX7_whatIs_97 rfl ml_RX7_250 kj_X7_firstNotSo kv_X7_firstNotSo (sp_X7_firstNotSo hq rfl (by omega)) (by first | assumption | rfl | decide | omega) (by first | assumption | rfl | decide | omega) (by decide) rfl (by first | decide | omega) (by exact Nat.le_of_ble_eq_true rfl) (fun u97 D97 g97 => ?_)
      refine X_if_ge (tgt := 112) (nx := 103) dX7_whatIs_100 rfl rfl (fun h100 => ?_) (fun h100 => ?_)
      · skip
        have hz := ior_skip (p := wiK S R) (i := i) (fns_s g97.1 h100)
        rw [hz]
        refine X_iinc (nx := 115) dX7_whatIs_112 rfl (by decide) rfl (by first | exact ii1 _ | rfl) rfl (st_s (st_s (st_s (st_s (st_s (st_s (st_s (st_0)))))))) ?_
        refine X_goto (tgt := 81) dX7_whatIs_115 rfl ?_
        exact ih (i + 1) i D97 (by omega) g97.2.1 (hf.tr ((Fr.up (by unfold inC; omega)).tr g97.2.2.sc))
      · skip
        have hz := ior_step (p := wiK S R) (i := i) (fns_n hl g97.1 h100) (by omega)
        refine X_iload (nx := 105) dX7_whatIs_103 rfl rfl ?_
        refine X_iconst (v := 1) (nx := 106) dX7_whatIs_105 rfl rfl ?_
        refine X_iload (nx := 108) dX7_whatIs_106 rfl rfl ?_
        refine X_ishl (nx := 109) dX7_whatIs_108 rfl ?_
        refine X_ior (nx := 110) dX7_whatIs_109 rfl ?_
        refine X_top (hz) ?_
        refine X_istore (i := 6) (nx := 112) dX7_whatIs_110 rfl (by decide) rfl (st_s (st_s (st_s (st_s (st_s (st_s (st_0))))))) ?_
        refine X_iinc (nx := 115) dX7_whatIs_112 rfl (by decide) rfl (by first | exact ii1 _ | rfl) rfl (st_s (st_s (st_s (st_s (st_s (st_s (st_s (st_0)))))))) ?_
        refine X_goto (tgt := 81) dX7_whatIs_115 rfl ?_
        exact ih (i + 1) i D97 (by omega) g97.2.1 (hf.tr ((Fr.up (by unfold inC; omega)).tr g97.2.2.sc))
theorem lp_wiK54 {S : St} {D : Mem} {R : Nat} {y : Int32} (hR : R < 3) (h : INV1 D S) (hy : y = 0) : X 22 138 j_X7_whatIs 54 [some (.ref 0), some (.int (nI R)), some (.int y), none, none, none, none, none] [.ref 89] (138, P0, D) (fun x σ => ∃ (u : Int32) (D' : Mem), x = [.int u] ∧ σ = wd D' ∧ CK D (nI (mkn (wiK S R) 6), S) u D') := by
  have hly : (lay 89).2 = 3 := by decide
  have hd := h.2.2.2.1 R hR
  refine X_astore_n (i := 3) (nx := 55) dX7_whatIs_54 rfl rfl (by decide) rfl (st_s (st_s (st_s (st_0)))) ?_
  refine X_iload_n (nx := 56) dX7_whatIs_55 rfl rfl rfl ?_
  refine X_if_ne (tgt := 64) (nx := 59) dX7_whatIs_56 rfl rfl (fun h56 => ?_) (fun h56 => ?_)
  · exact absurd h56 (fun q => q hy)
  · skip
    refine X_bipush (v := nI 6) (nx := 61) dX7_whatIs_59 rfl rfl ?_
    refine X_goto (tgt := 66) dX7_whatIs_61 rfl ?_
    refine X_istore (i := 4) (nx := 68) dX7_whatIs_66 rfl (by decide) rfl (st_s (st_s (st_s (st_s (st_0))))) ?_
    refine X_aload_n (nx := 69) dX7_whatIs_68 rfl rfl rfl ?_
    refine X_iload_n (nx := 70) dX7_whatIs_69 rfl rfl rfl ?_
    refine Y_Si2 (nx := 73) dX7_whatIs_70 rfl ml_RX7_92 kj_X7_numberAt ks_X7_numberAt (sp_X7_numberAt (i := R) (by decide) (by decide) rfl (by omega)) (by first | decide | omega) (by exact Nat.le_of_ble_eq_true rfl) ?_
    refine X_top (hd.1) ?_
    refine X_istore (i := 5) (nx := 75) dX7_whatIs_73 rfl (by decide) rfl (st_s (st_s (st_s (st_s (st_s (st_0)))))) ?_
    refine X_iconst (v := nI 0) (nx := 76) dX7_whatIs_75 rfl rfl ?_
    refine X_istore (i := 6) (nx := 78) dX7_whatIs_76 rfl (by decide) rfl (st_s (st_s (st_s (st_s (st_s (st_s (st_0))))))) ?_
    refine X_iconst (v := nI 0) (nx := 79) dX7_whatIs_78 rfl rfl ?_
    refine X_istore (i := 7) (nx := 81) dX7_whatIs_79 rfl (by decide) rfl (st_s (st_s (st_s (st_s (st_s (st_s (st_s (st_0)))))))) ?_
    exact lp_wiK hR 6 0 (kd_ (bk S) R) D rfl (by rw [up1_id]; exact h) Fr.rf
theorem lp_wiF {S : St} {D : Mem} {R : Nat} {y : Int32} (hR : R < 3) : ∀ (m : Nat) (i k0 : Nat) (D1 : Mem), i + m = 10 → INVK D1 S (kd_ (bk S)) (up1 (fg_ (bk S)) R k0) → Fr inC D D1 → X 22 138 j_X7_whatIs 81 [some (.ref 0), some (.int (nI R)), some (.int y), some (.ref 90), some (.int (nI 10)), some (.int (nI (fg_ (bk S) R))), some (.int (nI (mkn (wiF S R) i))), some (.int (nI i))] [] (138, P0, D1) (fun x σ => ∃ (u : Int32) (D' : Mem), x = [.int u] ∧ σ = wd D' ∧ CK D (nI (mkn (wiF S R) 10), S) u D') := by
  intro m
  induction m with
  | zero =>
    intro i k0 D1 hi h hf
    have hly : (lay 90).2 = 3 := by decide
    have hold : fg_ (bk S) R ≤ 9 := (h.1.2.1.1 R hR).2
    refine X_iload (nx := 83) dX7_whatIs_81 rfl rfl ?_
    refine X_iload (nx := 85) dX7_whatIs_83 rfl rfl ?_
    refine X_icmp_ge (tgt := 118) (nx := 88) dX7_whatIs_85 rfl rfl (fun h85 => ?_) (fun h85 => ?_)
    · skip
      refine X_aload_n (nx := 119) dX7_whatIs_118 rfl rfl rfl ?_
      refine X_iload_n (nx := 120) dX7_whatIs_119 rfl rfl rfl ?_
      refine X_iload (nx := 122) dX7_whatIs_120 rfl rfl ?_
      refine Y_Sv3 (nx := 125) dX7_whatIs_122 rfl ml_RX7_99 kj_X7_put ks_X7_put (sp_X7_put (i := R) (by decide) (by decide) rfl (by omega)) (by first | decide | omega) (by exact Nat.le_of_ble_eq_true rfl) ?_
      refine X_iload (nx := 127) dX7_whatIs_125 rfl rfl ?_
      exact Z_reti dX7_whatIs_127 (Or.inl rfl) (by obtain rfl : i = 10 := (by omega); exact ck_s rfl (by have q := invk_F (R := R) (k := (fg_ (bk S) R)) h (by omega); rw [up1_up1, up1_id] at q; exact q) (hf.tr (Fr.up (by unfold inC; omega))))
    · exact absurd h85 (fun q => q (nI_le (by omega) (by omega)))
  | succ m ih =>
    intro i k0 D1 hi h hf
    have hly : (lay 90).2 = 3 := by decide
    have hl : (rw_ S).length ≤ 30 := h.2.1.2.2.1.1
    refine X_iload (nx := 83) dX7_whatIs_81 rfl rfl ?_
    refine X_iload (nx := 85) dX7_whatIs_83 rfl rfl ?_
    refine X_icmp_ge (tgt := 118) (nx := 88) dX7_whatIs_85 rfl rfl (fun h85 => ?_) (fun h85 => ?_)
    · exact absurd h85 (nI_ge (by omega) (by omega))
    · skip
      refine X_aload_n (nx := 89) dX7_whatIs_88 rfl rfl rfl ?_
      refine X_iload_n (nx := 90) dX7_whatIs_89 rfl rfl rfl ?_
      refine X_iload (nx := 92) dX7_whatIs_90 rfl rfl ?_
      refine Y_Sv3 (nx := 95) dX7_whatIs_92 rfl ml_RX7_99 kj_X7_put ks_X7_put (sp_X7_put (i := R) (by decide) (by decide) rfl (by omega)) (by first | decide | omega) (by exact Nat.le_of_ble_eq_true rfl) ?_
      have hq := invk_F (R := R) (k := i) h (by omega)
      rw [up1_up1] at hq
      refine X_aload_n (nx := 96) dX7_whatIs_95 rfl rfl rfl ?_
      refine X_iconst (v := nI 0) (nx := 97) dX7_whatIs_96 rfl rfl ?_
      refine Z_Vi1 (nx := 100) dX7_whatIs_97 rfl ml_RX7_250 kj_X7_firstNotSo kv_X7_firstNotSo (sp_X7_firstNotSo hq rfl (by omega)) (by first | assumption | rfl | decide | omega) (by first | assumption | rfl | decide | omega) (by decide) rfl (by first | decide | omega) (by exact Nat.le_of_ble_eq_true rfl) (fun u97 D97 g97 => ?_)
      refine X_if_ge (tgt := 112) (nx := 103) dX7_whatIs_100 rfl rfl (fun h100 => ?_) (fun h100 => ?_)
      · skip
        have hz := ior_skip (p := wiF S R) (i := i) (fns_s g97.1 h100)
        rw [hz]
        refine X_iinc (nx := 115) dX7_whatIs_112 rfl (by decide) rfl (by first | exact ii1 _ | rfl) rfl (st_s (st_s (st_s (st_s (st_s (st_s (st_s (st_0)))))))) ?_
        refine X_goto (tgt := 81) dX7_whatIs_115 rfl ?_
        exact ih (i + 1) i D97 (by omega) g97.2.1 (hf.tr ((Fr.up (by unfold inC; omega)).tr g97.2.2.sc))
      · skip
        have hz := ior_step (p := wiF S R) (i := i) (fns_n hl g97.1 h100) (by omega)
        refine X_iload (nx := 105) dX7_whatIs_103 rfl rfl ?_
        refine X_iconst (v := 1) (nx := 106) dX7_whatIs_105 rfl rfl ?_
        refine X_iload (nx := 108) dX7_whatIs_106 rfl rfl ?_
        refine X_ishl (nx := 109) dX7_whatIs_108 rfl ?_
        refine X_ior (nx := 110) dX7_whatIs_109 rfl ?_
        refine X_top (hz) ?_
        refine X_istore (i := 6) (nx := 112) dX7_whatIs_110 rfl (by decide) rfl (st_s (st_s (st_s (st_s (st_s (st_s (st_0))))))) ?_
        refine X_iinc (nx := 115) dX7_whatIs_112 rfl (by decide) rfl (by first | exact ii1 _ | rfl) rfl (st_s (st_s (st_s (st_s (st_s (st_s (st_s (st_0)))))))) ?_
        refine X_goto (tgt := 81) dX7_whatIs_115 rfl ?_
        exact ih (i + 1) i D97 (by omega) g97.2.1 (hf.tr ((Fr.up (by unfold inC; omega)).tr g97.2.2.sc))
theorem lp_wiF54 {S : St} {D : Mem} {R : Nat} {y : Int32} (hR : R < 3) (h : INV1 D S) (hy : ¬ y = 0) : X 22 138 j_X7_whatIs 54 [some (.ref 0), some (.int (nI R)), some (.int y), none, none, none, none, none] [.ref 90] (138, P0, D) (fun x σ => ∃ (u : Int32) (D' : Mem), x = [.int u] ∧ σ = wd D' ∧ CK D (nI (mkn (wiF S R) 10), S) u D') := by
  have hly : (lay 90).2 = 3 := by decide
  have hd := h.2.2.2.1 R hR
  refine X_astore_n (i := 3) (nx := 55) dX7_whatIs_54 rfl rfl (by decide) rfl (st_s (st_s (st_s (st_0)))) ?_
  refine X_iload_n (nx := 56) dX7_whatIs_55 rfl rfl rfl ?_
  refine X_if_ne (tgt := 64) (nx := 59) dX7_whatIs_56 rfl rfl (fun h56 => ?_) (fun h56 => ?_)
  · skip
    refine X_bipush (v := nI 10) (nx := 66) dX7_whatIs_64 rfl rfl ?_
    refine X_istore (i := 4) (nx := 68) dX7_whatIs_66 rfl (by decide) rfl (st_s (st_s (st_s (st_s (st_0))))) ?_
    refine X_aload_n (nx := 69) dX7_whatIs_68 rfl rfl rfl ?_
    refine X_iload_n (nx := 70) dX7_whatIs_69 rfl rfl rfl ?_
    refine Y_Si2 (nx := 73) dX7_whatIs_70 rfl ml_RX7_92 kj_X7_numberAt ks_X7_numberAt (sp_X7_numberAt (i := R) (by decide) (by decide) rfl (by omega)) (by first | decide | omega) (by exact Nat.le_of_ble_eq_true rfl) ?_
    refine X_top (hd.2.1) ?_
    refine X_istore (i := 5) (nx := 75) dX7_whatIs_73 rfl (by decide) rfl (st_s (st_s (st_s (st_s (st_s (st_0)))))) ?_
    refine X_iconst (v := nI 0) (nx := 76) dX7_whatIs_75 rfl rfl ?_
    refine X_istore (i := 6) (nx := 78) dX7_whatIs_76 rfl (by decide) rfl (st_s (st_s (st_s (st_s (st_s (st_s (st_0))))))) ?_
    refine X_iconst (v := nI 0) (nx := 79) dX7_whatIs_78 rfl rfl ?_
    refine X_istore (i := 7) (nx := 81) dX7_whatIs_79 rfl (by decide) rfl (st_s (st_s (st_s (st_s (st_s (st_s (st_s (st_0)))))))) ?_
    exact lp_wiF hR 10 0 (fg_ (bk S) R) D rfl (by rw [up1_id]; exact h) Fr.rf
  · exact absurd h56 hy
theorem sp_X7_whatIs {x y : Int32} {S : St} {D : Mem} (h : INV1 D S) : Rix 22 j_X7_whatIs [.ref 0, .int x, .int y] D (fun u D' => CK D (m_whatIs S x y) u D') := by
  refine E.start 5 (ls := [some (.ref 0), some (.int x), some (.int y), none, none, none, none, none]) (by decide +kernel) (Nat.le_of_ble_eq_true rfl) rfl (Nat.le_refl _) (Nat.le_refl _) ?_
  have hcm := h.1.2.1.2.1
  refine X_iload_n (nx := 1) dX7_whatIs_0 rfl rfl rfl ?_
  refine Y_Si1 (nx := 4) dX7_whatIs_1 rfl ml_RX7_85 kj_X7_isRouter ks_X7_isRouter (sp_X7_isRouter) (by first | decide | omega) (by exact Nat.le_of_ble_eq_true rfl) ?_
  refine X_if_ne (tgt := 13) (nx := 7) dX7_whatIs_4 rfl rfl (fun h4 => ?_) (fun h4 => ?_)
  · skip
    have c4 := b2i_t.mp h4
    obtain ⟨R, hR, rfl⟩ := ex_nI (N := 3) (n := 3) rfl (by decide) (of_decide_eq_true c4)
    have k4 : (nI R).toNatClampNeg = R := nI_clamp (by omega)
    refine X_iload_n (nx := 14) dX7_whatIs_13 rfl rfl rfl ?_
    refine Y_Si1 (nx := 17) dX7_whatIs_14 rfl ml_RX7_197 kj_X7_isOneOfTwo ks_X7_isOneOfTwo (sp_X7_isOneOfTwo) (by first | decide | omega) (by exact Nat.le_of_ble_eq_true rfl) ?_
    refine X_if_ne (tgt := 27) (nx := 20) dX7_whatIs_17 rfl rfl (fun h17 => ?_) (fun h17 => ?_)
    · skip
      have c17 := b2i_t.mp h17
      refine X_iload_n (nx := 28) dX7_whatIs_27 rfl rfl rfl ?_
      refine X_if_ne (tgt := 44) (nx := 31) dX7_whatIs_28 rfl rfl (fun h28 => ?_) (fun h28 => ?_)
      · skip
        refine X_aload_n (nx := 45) dX7_whatIs_44 rfl rfl rfl ?_
        refine M_getP (nx := 48) dX7_whatIs_45 rfl fl_RX7_25 rfl (by first | assumption | rfl | decide | omega) (by first | assumption | rfl | decide | omega) (by first | assumption | rfl | decide | omega) ?_
        refine M_getP (nx := 51) dX7_whatIs_48 rfl fl_RX7_76 rfl (by first | assumption | rfl | decide | omega) (by first | assumption | rfl | decide | omega) (by first | assumption | rfl | decide | omega) ?_
        refine M_getP (nx := 54) dX7_whatIs_51 rfl fl_RX7_249 rfl (by first | assumption | rfl | decide | omega) (by first | assumption | rfl | decide | omega) (by first | assumption | rfl | decide | omega) ?_
        (unfold m_whatIs; rw [if_pos c4, if_pos c17, k4]; first | (rw [if_neg h28]; exact lp_wiF54 hR h h28) | (rw [if_pos h28]; exact lp_wiK54 hR h h28))
      · skip
        refine X_aload_n (nx := 32) dX7_whatIs_31 rfl rfl rfl ?_
        refine M_getP (nx := 35) dX7_whatIs_32 rfl fl_RX7_25 rfl (by first | assumption | rfl | decide | omega) (by first | assumption | rfl | decide | omega) (by first | assumption | rfl | decide | omega) ?_
        refine M_getP (nx := 38) dX7_whatIs_35 rfl fl_RX7_76 rfl (by first | assumption | rfl | decide | omega) (by first | assumption | rfl | decide | omega) (by first | assumption | rfl | decide | omega) ?_
        refine M_getP (nx := 41) dX7_whatIs_38 rfl fl_RX7_231 rfl (by first | assumption | rfl | decide | omega) (by first | assumption | rfl | decide | omega) (by first | assumption | rfl | decide | omega) ?_
        refine X_goto (tgt := 54) dX7_whatIs_41 rfl ?_
        (unfold m_whatIs; rw [if_pos c4, if_pos c17, k4]; first | (rw [if_neg h28]; exact lp_wiF54 hR h h28) | (rw [if_pos h28]; exact lp_wiK54 hR h h28))
    · skip
      have n17 := nb h17
      refine X_aload_n (nx := 21) dX7_whatIs_20 rfl rfl rfl ?_
      refine X_bipush (v := -2) (nx := 23) dX7_whatIs_21 rfl rfl ?_
      refine Y_Vi1 (nx := 26) dX7_whatIs_23 rfl ml_RX7_51 kj_X7_refuse kv_X7_refuse (sp_X7_refuse (k := 2) rfl (by omega) (by omega)) (by first | assumption | rfl | decide | omega) (by first | assumption | rfl | decide | omega) (by decide) rfl (by first | decide | omega) (by exact Nat.le_of_ble_eq_true rfl) ?_
      exact Z_reti dX7_whatIs_26 (Or.inl rfl) (by unfold m_whatIs; rw [if_pos c4, if_neg n17]; exact ck_no (k := 2) h Fr.rf (by omega) (by omega))
  · skip
    have n4 := nb h4
    refine X_aload_n (nx := 8) dX7_whatIs_7 rfl rfl rfl ?_
    refine X_iconst (v := -1) (nx := 9) dX7_whatIs_8 rfl rfl ?_
    refine Y_Vi1 (nx := 12) dX7_whatIs_9 rfl ml_RX7_51 kj_X7_refuse kv_X7_refuse (sp_X7_refuse (k := 1) rfl (by omega) (by omega)) (by first | assumption | rfl | decide | omega) (by first | assumption | rfl | decide | omega) (by decide) rfl (by first | decide | omega) (by exact Nat.le_of_ble_eq_true rfl) ?_
    exact Z_reti dX7_whatIs_12 (Or.inl rfl) (by unfold m_whatIs; rw [if_neg n4]; exact ck_no (k := 1) h Fr.rf (by omega) (by omega))
def bcn (S : St) (R k : Nat) : Int32 := nI (cn (fun p => (mtE (bk S) (wS S) 0 p (up1 (kd_ (bk S)) R k) (fg_ (bk S))).isSome) 341)
def bsm (S : St) (R k : Nat) : Int32 := nI (sumN (fun p => (mt (bk S) (wS S) 0 p (up1 (kd_ (bk S)) R k) (fg_ (bk S))).2) 341)
def bstep (S : St) (R : Nat) (t : Int32 × Int32 × Int32) (k : Nat) : Int32 × Int32 × Int32 := if t.2.1 < bcn S R k ∨ (bcn S R k = t.2.1 ∧ bsm S R k < t.2.2) then (nI k, bcn S R k, bsm S R k) else t
def bstN (S : St) (R : Nat) (t : Int32 × Int32 × Int32) : Nat → Int32 × Int32 × Int32
  | 0 => t
  | k + 1 => bstep S R (bstN S R t k) k
def m_best (S : St) (x : Int32) : Int32 × St := if decide (0 ≤ x ∧ x < 3) = true then ((bstN S x.toNatClampNeg (0, -1, 0) 6).1, S) else no_ S 1
theorem bst_y {S : St} {R : Nat} {t : Int32 × Int32 × Int32} {k : Nat} (h : (bstN S R t k).2.1 < bcn S R k ∨ (bcn S R k = (bstN S R t k).2.1 ∧ bsm S R k < (bstN S R t k).2.2)) : bstN S R t (k + 1) = (nI k, bcn S R k, bsm S R k) := if_pos h
theorem bst_n {S : St} {R : Nat} {t : Int32 × Int32 × Int32} {k : Nat} (h : ¬ ((bstN S R t k).2.1 < bcn S R k ∨ (bcn S R k = (bstN S R t k).2.1 ∧ bsm S R k < (bstN S R t k).2.2))) : bstN S R t (k + 1) = bstN S R t k := if_neg h
theorem dX7_best_0 : decode cX7_best 0 = .ok (.iload_n 1, 1) := by decide +kernel
theorem dX7_best_1 : decode cX7_best 1 = .ok (.invokestatic 85, 3) := by decide +kernel
theorem dX7_best_4 : decode cX7_best 4 = .ok (.ifCond .ne 9, 3) := by decide +kernel
theorem dX7_best_7 : decode cX7_best 7 = .ok (.aload_n 0, 1) := by decide +kernel
theorem dX7_best_8 : decode cX7_best 8 = .ok (.iconst (-1), 1) := by decide +kernel
theorem dX7_best_9 : decode cX7_best 9 = .ok (.invokevirtual 51, 3) := by decide +kernel
theorem dX7_best_12 : decode cX7_best 12 = .ok (.ireturn, 1) := by decide +kernel
theorem dX7_best_13 : decode cX7_best 13 = .ok (.aload_n 0, 1) := by decide +kernel
theorem dX7_best_14 : decode cX7_best 14 = .ok (.getfield 10, 3) := by decide +kernel
theorem dX7_best_17 : decode cX7_best 17 = .ok (.invokevirtual 125, 3) := by decide +kernel
theorem dX7_best_20 : decode cX7_best 20 = .ok (.istore_n 2, 1) := by decide +kernel
theorem dX7_best_21 : decode cX7_best 21 = .ok (.iconst 0, 1) := by decide +kernel
theorem dX7_best_22 : decode cX7_best 22 = .ok (.istore_n 3, 1) := by decide +kernel
theorem dX7_best_23 : decode cX7_best 23 = .ok (.iconst (-1), 1) := by decide +kernel
theorem dX7_best_24 : decode cX7_best 24 = .ok (.istore 4, 2) := by decide +kernel
theorem dX7_best_26 : decode cX7_best 26 = .ok (.iconst 0, 1) := by decide +kernel
theorem dX7_best_27 : decode cX7_best 27 = .ok (.istore 5, 2) := by decide +kernel
theorem dX7_best_29 : decode cX7_best 29 = .ok (.iconst 0, 1) := by decide +kernel
theorem dX7_best_30 : decode cX7_best 30 = .ok (.istore 6, 2) := by decide +kernel
theorem dX7_best_32 : decode cX7_best 32 = .ok (.iload 6, 2) := by decide +kernel
theorem dX7_best_34 : decode cX7_best 34 = .ok (.bipush 6, 2) := by decide +kernel
theorem dX7_best_36 : decode cX7_best 36 = .ok (.if_icmp .ge 91, 3) := by decide +kernel
theorem dX7_best_39 : decode cX7_best 39 = .ok (.aload_n 0, 1) := by decide +kernel
theorem dX7_best_40 : decode cX7_best 40 = .ok (.getfield 25, 3) := by decide +kernel
theorem dX7_best_43 : decode cX7_best 43 = .ok (.getfield 76, 3) := by decide +kernel
theorem dX7_best_46 : decode cX7_best 46 = .ok (.getfield 231, 3) := by decide +kernel
theorem dX7_best_49 : decode cX7_best 49 = .ok (.iload_n 1, 1) := by decide +kernel
theorem dX7_best_50 : decode cX7_best 50 = .ok (.iload 6, 2) := by decide +kernel
theorem dX7_best_52 : decode cX7_best 52 = .ok (.invokestatic 99, 3) := by decide +kernel
theorem dX7_best_55 : decode cX7_best 55 = .ok (.aload_n 0, 1) := by decide +kernel
theorem dX7_best_56 : decode cX7_best 56 = .ok (.getfield 25, 3) := by decide +kernel
theorem dX7_best_59 : decode cX7_best 59 = .ok (.iconst 0, 1) := by decide +kernel
theorem dX7_best_60 : decode cX7_best 60 = .ok (.iload_n 2, 1) := by decide +kernel
theorem dX7_best_61 : decode cX7_best 61 = .ok (.invokevirtual 206, 3) := by decide +kernel
theorem dX7_best_64 : decode cX7_best 64 = .ok (.aload_n 0, 1) := by decide +kernel
theorem dX7_best_65 : decode cX7_best 65 = .ok (.getfield 25, 3) := by decide +kernel
theorem dX7_best_68 : decode cX7_best 68 = .ok (.getfield 210, 3) := by decide +kernel
theorem dX7_best_71 : decode cX7_best 71 = .ok (.iload 4, 2) := by decide +kernel
theorem dX7_best_73 : decode cX7_best 73 = .ok (.if_icmp .gt 27, 3) := by decide +kernel
theorem dX7_best_76 : decode cX7_best 76 = .ok (.aload_n 0, 1) := by decide +kernel
theorem dX7_best_77 : decode cX7_best 77 = .ok (.getfield 25, 3) := by decide +kernel
theorem dX7_best_80 : decode cX7_best 80 = .ok (.getfield 210, 3) := by decide +kernel
theorem dX7_best_83 : decode cX7_best 83 = .ok (.iload 4, 2) := by decide +kernel
theorem dX7_best_85 : decode cX7_best 85 = .ok (.if_icmp .ne 36, 3) := by decide +kernel
theorem dX7_best_88 : decode cX7_best 88 = .ok (.aload_n 0, 1) := by decide +kernel
theorem dX7_best_89 : decode cX7_best 89 = .ok (.getfield 25, 3) := by decide +kernel
theorem dX7_best_92 : decode cX7_best 92 = .ok (.getfield 232, 3) := by decide +kernel
theorem dX7_best_95 : decode cX7_best 95 = .ok (.iload 5, 2) := by decide +kernel
theorem dX7_best_97 : decode cX7_best 97 = .ok (.if_icmp .ge 24, 3) := by decide +kernel
theorem dX7_best_100 : decode cX7_best 100 = .ok (.iload 6, 2) := by decide +kernel
theorem dX7_best_102 : decode cX7_best 102 = .ok (.istore_n 3, 1) := by decide +kernel
theorem dX7_best_103 : decode cX7_best 103 = .ok (.aload_n 0, 1) := by decide +kernel
theorem dX7_best_104 : decode cX7_best 104 = .ok (.getfield 25, 3) := by decide +kernel
theorem dX7_best_107 : decode cX7_best 107 = .ok (.getfield 210, 3) := by decide +kernel
theorem dX7_best_110 : decode cX7_best 110 = .ok (.istore 4, 2) := by decide +kernel
theorem dX7_best_112 : decode cX7_best 112 = .ok (.aload_n 0, 1) := by decide +kernel
theorem dX7_best_113 : decode cX7_best 113 = .ok (.getfield 25, 3) := by decide +kernel
theorem dX7_best_116 : decode cX7_best 116 = .ok (.getfield 232, 3) := by decide +kernel
theorem dX7_best_119 : decode cX7_best 119 = .ok (.istore 5, 2) := by decide +kernel
theorem dX7_best_121 : decode cX7_best 121 = .ok (.iinc 6 1, 3) := by decide +kernel
theorem dX7_best_124 : decode cX7_best 124 = .ok (.goto (-92), 3) := by decide +kernel
theorem dX7_best_127 : decode cX7_best 127 = .ok (.aload_n 0, 1) := by decide +kernel
theorem dX7_best_128 : decode cX7_best 128 = .ok (.getfield 25, 3) := by decide +kernel
theorem dX7_best_131 : decode cX7_best 131 = .ok (.getfield 76, 3) := by decide +kernel
theorem dX7_best_134 : decode cX7_best 134 = .ok (.getfield 231, 3) := by decide +kernel
theorem dX7_best_137 : decode cX7_best 137 = .ok (.iload_n 1, 1) := by decide +kernel
theorem dX7_best_138 : decode cX7_best 138 = .ok (.aload_n 0, 1) := by decide +kernel
theorem dX7_best_139 : decode cX7_best 139 = .ok (.getfield 10, 3) := by decide +kernel
theorem dX7_best_142 : decode cX7_best 142 = .ok (.getfield 89, 3) := by decide +kernel
theorem dX7_best_145 : decode cX7_best 145 = .ok (.iload_n 1, 1) := by decide +kernel
theorem dX7_best_146 : decode cX7_best 146 = .ok (.invokestatic 92, 3) := by decide +kernel
theorem dX7_best_149 : decode cX7_best 149 = .ok (.invokestatic 99, 3) := by decide +kernel
theorem dX7_best_152 : decode cX7_best 152 = .ok (.iload_n 3, 1) := by decide +kernel
theorem dX7_best_153 : decode cX7_best 153 = .ok (.ireturn, 1) := by decide +kernel
theorem lp_best {S : St} {D : Mem} {R : Nat} (hR : R < 3) : ∀ (m : Nat) (i k0 : Nat) (D1 : Mem), i + m = 6 → INVK D1 S (up1 (kd_ (bk S)) R k0) (fg_ (bk S)) → Fr inC D D1 → X 22 138 j_X7_best 32 [some (.ref 0), some (.int (nI R)), some (.int (nI (wS S))), some (.int (bstN S R (0, -1, 0) i).1), some (.int (bstN S R (0, -1, 0) i).2.1), some (.int (bstN S R (0, -1, 0) i).2.2), some (.int (nI i))] [] (138, P0, D1) (fun x σ => ∃ (u : Int32) (D' : Mem), x = [.int u] ∧ σ = wd D' ∧ CK D ((bstN S R (0, -1, 0) 6).1, S) u D') := by
  intro m
  induction m with
  | zero =>
    intro i k0 D1 hi h hf
    have hly : (lay 89).2 = 3 ∧ (lay 2).2 = 3 := by decide
    refine X_iload (nx := 34) dX7_best_32 rfl rfl ?_
    refine X_bipush (v := nI 6) (nx := 36) dX7_best_34 rfl rfl ?_
    refine X_icmp_ge (tgt := 127) (nx := 39) dX7_best_36 rfl rfl (fun h36 => ?_) (fun h36 => ?_)
    · skip
      refine X_aload_n (nx := 128) dX7_best_127 rfl rfl rfl ?_
      refine M_getP (nx := 131) dX7_best_128 rfl fl_RX7_25 rfl (by first | assumption | rfl | decide | omega) (by first | assumption | rfl | decide | omega) (by first | assumption | rfl | decide | omega) ?_
      refine M_getP (nx := 134) dX7_best_131 rfl fl_RX7_76 rfl (by first | assumption | rfl | decide | omega) (by first | assumption | rfl | decide | omega) (by first | assumption | rfl | decide | omega) ?_
      refine M_getP (nx := 137) dX7_best_134 rfl fl_RX7_231 rfl (by first | assumption | rfl | decide | omega) (by first | assumption | rfl | decide | omega) (by first | assumption | rfl | decide | omega) ?_
      refine X_iload_n (nx := 138) dX7_best_137 rfl rfl rfl ?_
      refine X_aload_n (nx := 139) dX7_best_138 rfl rfl rfl ?_
      refine M_getP (nx := 142) dX7_best_139 rfl fl_RX7_10 rfl (by first | assumption | rfl | decide | omega) (by first | assumption | rfl | decide | omega) (by first | assumption | rfl | decide | omega) ?_
      refine M_getP (nx := 145) dX7_best_142 rfl fl_RX7_89 rfl (by first | assumption | rfl | decide | omega) (by first | assumption | rfl | decide | omega) (by first | assumption | rfl | decide | omega) ?_
      refine X_iload_n (nx := 146) dX7_best_145 rfl rfl rfl ?_
      refine Y_Si2 (nx := 149) dX7_best_146 rfl ml_RX7_92 kj_X7_numberAt ks_X7_numberAt (sp_X7_numberAt (i := R) (by decide) (by decide) rfl (by omega)) (by first | decide | omega) (by exact Nat.le_of_ble_eq_true rfl) ?_
      refine X_top ((h.1.1.1 R hR).1) ?_
      refine Y_Sv3 (nx := 152) dX7_best_149 rfl ml_RX7_99 kj_X7_put ks_X7_put (sp_X7_put (i := R) (by decide) (by decide) rfl (by omega)) (by first | decide | omega) (by exact Nat.le_of_ble_eq_true rfl) ?_
      refine X_iload_n (nx := 153) dX7_best_152 rfl rfl rfl ?_
      exact Z_reti dX7_best_153 (Or.inl rfl) (by obtain rfl : i = 6 := (by omega); exact ck_s rfl (by have q := invk_K (R := R) (k := kd_ (bk S) R) h (h.1.2.1.1 R hR).1; rw [up1_up1, up1_id] at q; exact q) (hf.tr (Fr.up (by unfold inC; omega))))
    · exact absurd h36 (fun q => q (nI_le (by omega) (by omega)))
  | succ m ih =>
    intro i k0 D1 hi h hf
    have hly : (lay 89).2 = 3 := by decide
    refine X_iload (nx := 34) dX7_best_32 rfl rfl ?_
    refine X_bipush (v := nI 6) (nx := 36) dX7_best_34 rfl rfl ?_
    refine X_icmp_ge (tgt := 127) (nx := 39) dX7_best_36 rfl rfl (fun h36 => ?_) (fun h36 => ?_)
    · exact absurd h36 (nI_ge (by omega) (by omega))
    · skip
      refine X_aload_n (nx := 40) dX7_best_39 rfl rfl rfl ?_
      refine M_getP (nx := 43) dX7_best_40 rfl fl_RX7_25 rfl (by first | assumption | rfl | decide | omega) (by first | assumption | rfl | decide | omega) (by first | assumption | rfl | decide | omega) ?_
      refine M_getP (nx := 46) dX7_best_43 rfl fl_RX7_76 rfl (by first | assumption | rfl | decide | omega) (by first | assumption | rfl | decide | omega) (by first | assumption | rfl | decide | omega) ?_
      refine M_getP (nx := 49) dX7_best_46 rfl fl_RX7_231 rfl (by first | assumption | rfl | decide | omega) (by first | assumption | rfl | decide | omega) (by first | assumption | rfl | decide | omega) ?_
      refine X_iload_n (nx := 50) dX7_best_49 rfl rfl rfl ?_
      refine X_iload (nx := 52) dX7_best_50 rfl rfl ?_
      refine Y_Sv3 (nx := 55) dX7_best_52 rfl ml_RX7_99 kj_X7_put ks_X7_put (sp_X7_put (i := R) (by decide) (by decide) rfl (by omega)) (by first | decide | omega) (by exact Nat.le_of_ble_eq_true rfl) ?_
      have hq := invk_K (R := R) (k := i) h (by omega)
      rw [up1_up1] at hq
      refine X_aload_n (nx := 56) dX7_best_55 rfl rfl rfl ?_
      refine M_getP (nx := 59) dX7_best_56 rfl fl_RX7_25 rfl (by first | assumption | rfl | decide | omega) (by first | assumption | rfl | decide | omega) (by first | assumption | rfl | decide | omega) ?_
      refine X_iconst (v := nI 0) (nx := 60) dX7_best_59 rfl rfl ?_
      refine X_iload_n (nx := 61) dX7_best_60 rfl rfl rfl ?_
      refine Z_Vv2 (nx := 64) dX7_best_61 rfl ml_RX7_206 kj_X6_bringAll kv_X6_bringAll (sp_X6_bringAll hq rfl (by omega) rfl (wS_lt S)) (by first | assumption | rfl | decide | omega) (by first | assumption | rfl | decide | omega) (by decide) rfl (by first | decide | omega) (by exact Nat.le_of_ble_eq_true rfl) (fun D61 g61 => ?_)
      refine X_aload_n (nx := 65) dX7_best_64 rfl rfl rfl ?_
      refine M_getP (nx := 68) dX7_best_65 rfl fl_RX7_25 rfl (by first | assumption | rfl | decide | omega) (by first | assumption | rfl | decide | omega) (by first | assumption | rfl | decide | omega) ?_
      refine M_getI (nx := 71) dX7_best_68 rfl fl_RX7_210 rfl (by first | assumption | rfl | decide | omega) (by first | assumption | rfl | decide | omega) ?_
      refine X_top (show D61 79 9 = bcn S R i from g61.2.2.1) ?_
      refine X_iload (nx := 73) dX7_best_71 rfl rfl ?_
      refine X_icmp_gt (tgt := 100) (nx := 76) dX7_best_73 rfl rfl (fun h73 => ?_) (fun h73 => ?_)
      · skip
        refine X_iload (nx := 102) dX7_best_100 rfl rfl ?_
        refine X_istore_n (i := 3) (nx := 103) dX7_best_102 rfl rfl (by decide) rfl (st_s (st_s (st_s (st_0)))) ?_
        refine X_aload_n (nx := 104) dX7_best_103 rfl rfl rfl ?_
        refine M_getP (nx := 107) dX7_best_104 rfl fl_RX7_25 rfl (by first | assumption | rfl | decide | omega) (by first | assumption | rfl | decide | omega) (by first | assumption | rfl | decide | omega) ?_
        refine M_getI (nx := 110) dX7_best_107 rfl fl_RX7_210 rfl (by first | assumption | rfl | decide | omega) (by first | assumption | rfl | decide | omega) ?_
        refine X_top (show D61 79 9 = bcn S R i from g61.2.2.1) ?_
        refine X_istore (i := 4) (nx := 112) dX7_best_110 rfl (by decide) rfl (st_s (st_s (st_s (st_s (st_0))))) ?_
        refine X_aload_n (nx := 113) dX7_best_112 rfl rfl rfl ?_
        refine M_getP (nx := 116) dX7_best_113 rfl fl_RX7_25 rfl (by first | assumption | rfl | decide | omega) (by first | assumption | rfl | decide | omega) (by first | assumption | rfl | decide | omega) ?_
        refine M_getI (nx := 119) dX7_best_116 rfl fl_RX7_232 rfl (by first | assumption | rfl | decide | omega) (by first | assumption | rfl | decide | omega) ?_
        refine X_top (show D61 79 10 = bsm S R i from g61.2.2.2) ?_
        refine X_istore (i := 5) (nx := 121) dX7_best_119 rfl (by decide) rfl (st_s (st_s (st_s (st_s (st_s (st_0)))))) ?_
        refine X_iinc (nx := 124) dX7_best_121 rfl (by decide) rfl (by first | exact ii1 _ | rfl) rfl (st_s (st_s (st_s (st_s (st_s (st_s (st_0))))))) ?_
        refine X_goto (tgt := 32) dX7_best_124 rfl ?_
        have hf2 := hf.tr ((Fr.up (D := D1) (a := 89) (i := R) (v := nI i) (show inC 89 by unfold inC; omega)).tr g61.2.1.sc)
        have hg := ih (i + 1) i D61 (by omega) g61.1 hf2
        first
          | (rw [bst_y (Or.inl h73)] at hg; exact hg)
          | (rw [bst_y (Or.inr ⟨by first | exact Classical.not_not.mp h85 | exact h85, Int32.not_le.mp h97⟩)] at hg; exact hg)
          | (rw [bst_n (fun q => q.elim h73 (fun q => by first | exact h85 q.1 | exact Int32.not_lt.mpr h97 q.2))] at hg; exact hg)
      · skip
        refine X_aload_n (nx := 77) dX7_best_76 rfl rfl rfl ?_
        refine M_getP (nx := 80) dX7_best_77 rfl fl_RX7_25 rfl (by first | assumption | rfl | decide | omega) (by first | assumption | rfl | decide | omega) (by first | assumption | rfl | decide | omega) ?_
        refine M_getI (nx := 83) dX7_best_80 rfl fl_RX7_210 rfl (by first | assumption | rfl | decide | omega) (by first | assumption | rfl | decide | omega) ?_
        refine X_top (show D61 79 9 = bcn S R i from g61.2.2.1) ?_
        refine X_iload (nx := 85) dX7_best_83 rfl rfl ?_
        refine X_icmp_ne (tgt := 121) (nx := 88) dX7_best_85 rfl rfl (fun h85 => ?_) (fun h85 => ?_)
        · skip
          refine X_iinc (nx := 124) dX7_best_121 rfl (by decide) rfl (by first | exact ii1 _ | rfl) rfl (st_s (st_s (st_s (st_s (st_s (st_s (st_0))))))) ?_
          refine X_goto (tgt := 32) dX7_best_124 rfl ?_
          have hf2 := hf.tr ((Fr.up (D := D1) (a := 89) (i := R) (v := nI i) (show inC 89 by unfold inC; omega)).tr g61.2.1.sc)
          have hg := ih (i + 1) i D61 (by omega) g61.1 hf2
          first
            | (rw [bst_y (Or.inl h73)] at hg; exact hg)
            | (rw [bst_y (Or.inr ⟨by first | exact Classical.not_not.mp h85 | exact h85, Int32.not_le.mp h97⟩)] at hg; exact hg)
            | (rw [bst_n (fun q => q.elim h73 (fun q => by first | exact h85 q.1 | exact Int32.not_lt.mpr h97 q.2))] at hg; exact hg)
        · skip
          refine X_aload_n (nx := 89) dX7_best_88 rfl rfl rfl ?_
          refine M_getP (nx := 92) dX7_best_89 rfl fl_RX7_25 rfl (by first | assumption | rfl | decide | omega) (by first | assumption | rfl | decide | omega) (by first | assumption | rfl | decide | omega) ?_
          refine M_getI (nx := 95) dX7_best_92 rfl fl_RX7_232 rfl (by first | assumption | rfl | decide | omega) (by first | assumption | rfl | decide | omega) ?_
          refine X_top (show D61 79 10 = bsm S R i from g61.2.2.2) ?_
          refine X_iload (nx := 97) dX7_best_95 rfl rfl ?_
          refine X_icmp_ge (tgt := 121) (nx := 100) dX7_best_97 rfl rfl (fun h97 => ?_) (fun h97 => ?_)
          · skip
            refine X_iinc (nx := 124) dX7_best_121 rfl (by decide) rfl (by first | exact ii1 _ | rfl) rfl (st_s (st_s (st_s (st_s (st_s (st_s (st_0))))))) ?_
            refine X_goto (tgt := 32) dX7_best_124 rfl ?_
            have hf2 := hf.tr ((Fr.up (D := D1) (a := 89) (i := R) (v := nI i) (show inC 89 by unfold inC; omega)).tr g61.2.1.sc)
            have hg := ih (i + 1) i D61 (by omega) g61.1 hf2
            first
              | (rw [bst_y (Or.inl h73)] at hg; exact hg)
              | (rw [bst_y (Or.inr ⟨by first | exact Classical.not_not.mp h85 | exact h85, Int32.not_le.mp h97⟩)] at hg; exact hg)
              | (rw [bst_n (fun q => q.elim h73 (fun q => by first | exact h85 q.1 | exact Int32.not_lt.mpr h97 q.2))] at hg; exact hg)
          · skip
            refine X_iload (nx := 102) dX7_best_100 rfl rfl ?_
            refine X_istore_n (i := 3) (nx := 103) dX7_best_102 rfl rfl (by decide) rfl (st_s (st_s (st_s (st_0)))) ?_
            refine X_aload_n (nx := 104) dX7_best_103 rfl rfl rfl ?_
            refine M_getP (nx := 107) dX7_best_104 rfl fl_RX7_25 rfl (by first | assumption | rfl | decide | omega) (by first | assumption | rfl | decide | omega) (by first | assumption | rfl | decide | omega) ?_
            refine M_getI (nx := 110) dX7_best_107 rfl fl_RX7_210 rfl (by first | assumption | rfl | decide | omega) (by first | assumption | rfl | decide | omega) ?_
            refine X_top (show D61 79 9 = bcn S R i from g61.2.2.1) ?_
            refine X_istore (i := 4) (nx := 112) dX7_best_110 rfl (by decide) rfl (st_s (st_s (st_s (st_s (st_0))))) ?_
            refine X_aload_n (nx := 113) dX7_best_112 rfl rfl rfl ?_
            refine M_getP (nx := 116) dX7_best_113 rfl fl_RX7_25 rfl (by first | assumption | rfl | decide | omega) (by first | assumption | rfl | decide | omega) (by first | assumption | rfl | decide | omega) ?_
            refine M_getI (nx := 119) dX7_best_116 rfl fl_RX7_232 rfl (by first | assumption | rfl | decide | omega) (by first | assumption | rfl | decide | omega) ?_
            refine X_top (show D61 79 10 = bsm S R i from g61.2.2.2) ?_
            refine X_istore (i := 5) (nx := 121) dX7_best_119 rfl (by decide) rfl (st_s (st_s (st_s (st_s (st_s (st_0)))))) ?_
            refine X_iinc (nx := 124) dX7_best_121 rfl (by decide) rfl (by first | exact ii1 _ | rfl) rfl (st_s (st_s (st_s (st_s (st_s (st_s (st_0))))))) ?_
            refine X_goto (tgt := 32) dX7_best_124 rfl ?_
            have hf2 := hf.tr ((Fr.up (D := D1) (a := 89) (i := R) (v := nI i) (show inC 89 by unfold inC; omega)).tr g61.2.1.sc)
            have hg := ih (i + 1) i D61 (by omega) g61.1 hf2
            first
              | (rw [bst_y (Or.inl h73)] at hg; exact hg)
              | (rw [bst_y (Or.inr ⟨by first | exact Classical.not_not.mp h85 | exact h85, Int32.not_le.mp h97⟩)] at hg; exact hg)
              | (rw [bst_n (fun q => q.elim h73 (fun q => by first | exact h85 q.1 | exact Int32.not_lt.mpr h97 q.2))] at hg; exact hg)
theorem sp_X7_best {x : Int32} {S : St} {D : Mem} (h : INV1 D S) : Rix 22 j_X7_best [.ref 0, .int x] D (fun u D' => CK D (m_best S x) u D') := by
  refine E.start 5 (ls := [some (.ref 0), some (.int x), none, none, none, none, none]) (by decide +kernel) (Nat.le_of_ble_eq_true rfl) rfl (Nat.le_refl _) (Nat.le_refl _) ?_
  have hcm := h.1.2.1.2.1
  refine X_iload_n (nx := 1) dX7_best_0 rfl rfl rfl ?_
  refine Y_Si1 (nx := 4) dX7_best_1 rfl ml_RX7_85 kj_X7_isRouter ks_X7_isRouter (sp_X7_isRouter) (by first | decide | omega) (by exact Nat.le_of_ble_eq_true rfl) ?_
  refine X_if_ne (tgt := 13) (nx := 7) dX7_best_4 rfl rfl (fun h4 => ?_) (fun h4 => ?_)
  · skip
    have c4 := b2i_t.mp h4
    obtain ⟨R, hR, rfl⟩ := ex_nI (N := 3) (n := 3) rfl (by decide) (of_decide_eq_true c4)
    have k4 : (nI R).toNatClampNeg = R := nI_clamp (by omega)
    refine X_aload_n (nx := 14) dX7_best_13 rfl rfl rfl ?_
    refine M_getP (nx := 17) dX7_best_14 rfl fl_RX7_10 rfl (by first | assumption | rfl | decide | omega) (by first | assumption | rfl | decide | omega) (by first | assumption | rfl | decide | omega) ?_
    refine Y_Vi0 (nx := 20) dX7_best_17 rfl ml_RX7_125 kj_X0_thereBits kv_X0_thereBits (sp_X0_thereBits (Or.inl rfl) h.1.1) (by first | assumption | rfl | decide | omega) (by first | assumption | rfl | decide | omega) (by decide) rfl (by first | decide | omega) (by exact Nat.le_of_ble_eq_true rfl) ?_
    refine X_istore_n (i := 2) (nx := 21) dX7_best_20 rfl rfl (by decide) rfl (st_s (st_s (st_0))) ?_
    refine X_iconst (v := 0) (nx := 22) dX7_best_21 rfl rfl ?_
    refine X_istore_n (i := 3) (nx := 23) dX7_best_22 rfl rfl (by decide) rfl (st_s (st_s (st_s (st_0)))) ?_
    refine X_iconst (v := -1) (nx := 24) dX7_best_23 rfl rfl ?_
    refine X_istore (i := 4) (nx := 26) dX7_best_24 rfl (by decide) rfl (st_s (st_s (st_s (st_s (st_0))))) ?_
    refine X_iconst (v := 0) (nx := 27) dX7_best_26 rfl rfl ?_
    refine X_istore (i := 5) (nx := 29) dX7_best_27 rfl (by decide) rfl (st_s (st_s (st_s (st_s (st_s (st_0)))))) ?_
    refine X_iconst (v := nI 0) (nx := 30) dX7_best_29 rfl rfl ?_
    refine X_istore (i := 6) (nx := 32) dX7_best_30 rfl (by decide) rfl (st_s (st_s (st_s (st_s (st_s (st_s (st_0))))))) ?_
    (unfold m_best; rw [if_pos c4, k4]; exact lp_best hR 6 0 (kd_ (bk S) R) D rfl (by rw [up1_id]; exact h) Fr.rf)
  · skip
    have n4 := nb h4
    refine X_aload_n (nx := 8) dX7_best_7 rfl rfl rfl ?_
    refine X_iconst (v := -1) (nx := 9) dX7_best_8 rfl rfl ?_
    refine Y_Vi1 (nx := 12) dX7_best_9 rfl ml_RX7_51 kj_X7_refuse kv_X7_refuse (sp_X7_refuse (k := 1) rfl (by omega) (by omega)) (by first | assumption | rfl | decide | omega) (by first | assumption | rfl | decide | omega) (by decide) rfl (by first | decide | omega) (by exact Nat.le_of_ble_eq_true rfl) ?_
    exact Z_reti dX7_best_12 (Or.inl rfl) (by unfold m_best; rw [if_neg n4]; exact ck_no (k := 1) h Fr.rf (by omega) (by omega))
