/-! THE REFERENCE: matchOf -/
def SM (b i : Nat) : Prop := (b = 104 ∧ (i = 11 ∨ (21 ≤ i ∧ i ≤ 24))) ∨ (114 ≤ b ∧ b ≤ 123)
theorem SM.scr {b i : Nat} (h : SM b i) : SCR b i := by unfold SM at h; unfold SCR; omega
theorem SMT.sm {b i : Nat} (h : SMT b i) : SM b i := by unfold SMT at h; unfold SM; omega
def BR2 (B : Bk) (T : Nat → Bool) (K F : Nat → Nat) (v p : Nat) (D : Mem) (u : Int32) (D' : Mem) : Prop :=
  GSt B T K F (pathL p) v D' ∧ Fq SM D D' ∧ u = opI (mtE B (wT B T) v p K F) ∧ D' 104 22 = nI (mt B (wT B T) v p K F).2 ∧ D' 104 23 = u ∧
  ∀ e ml k, (mt B (wT B T) v p K F).1 = some (e, ml, k) → k ≤ (pathL p).length ∧ e < 10 ∧ ∃ t, D' 104 21 = nI t ∧ t ≤ 6 ∧ VIA D' t ml ∧ D' 118 t = nI ((pathL p).length - k)
theorem BR2.lt {B : Bk} {T : Nat → Bool} {K F : Nat → Nat} {v p e : Nat} {D D' : Mem} {u : Int32} (h : BR2 B T K F v p D u D') (he : mtE B (wT B T) v p K F = some e) : e < 10 := by
  unfold mtE at he
  cases hm : (mt B (wT B T) v p K F).1 with
  | none => rw [hm] at he; cases he
  | some z =>
    obtain ⟨e2, ml, t⟩ := z
    rw [hm] at he
    cases he
    exact (h.2.2.2.2.2 _ _ _ hm).2.1
theorem br_no {B : Bk} {T : Nat → Bool} {K F : Nat → Nat} {v p : Nat} {D D' : Mem} {u : Int32} (h : BR2 B T K F v p D u D') (hu : u < 0) : mtE B (wT B T) v p K F = none := by
  cases hm : mtE B (wT B T) v p K F with
  | none => rfl
  | some k => rw [h.2.2.1, hm] at hu; exact absurd hu (nI_neg (show k < 2147483648 by have := h.lt hm; omega))
theorem br_yes {B : Bk} {T : Nat → Bool} {K F : Nat → Nat} {v p : Nat} {D D' : Mem} {u : Int32} (h : BR2 B T K F v p D u D') (hu : ¬ u < 0) : ∃ e, mtE B (wT B T) v p K F = some e ∧ u = nI e ∧ e < 10 := by
  cases hm : mtE B (wT B T) v p K F with
  | some k => exact ⟨k, rfl, by rw [h.2.2.1, hm]; rfl, h.lt hm⟩
  | none => rw [h.2.2.1, hm] at hu; exact absurd (by decide) hu
theorem dX8_matchOf_0 : decode cX8_matchOf 0 = .ok (.aload_n 0, 1) := by decide +kernel
theorem dX8_matchOf_1 : decode cX8_matchOf 1 = .ok (.iload_n 1, 1) := by decide +kernel
theorem dX8_matchOf_2 : decode cX8_matchOf 2 = .ok (.invokevirtual 195, 3) := by decide +kernel
theorem dX8_matchOf_5 : decode cX8_matchOf 5 = .ok (.aload_n 0, 1) := by decide +kernel
theorem dX8_matchOf_6 : decode cX8_matchOf 6 = .ok (.iload_n 2, 1) := by decide +kernel
theorem dX8_matchOf_7 : decode cX8_matchOf 7 = .ok (.putfield 143, 3) := by decide +kernel
theorem dX8_matchOf_10 : decode cX8_matchOf 10 = .ok (.aload_n 0, 1) := by decide +kernel
theorem dX8_matchOf_11 : decode cX8_matchOf 11 = .ok (.iconst (-1), 1) := by decide +kernel
theorem dX8_matchOf_12 : decode cX8_matchOf 12 = .ok (.putfield 140, 3) := by decide +kernel
theorem dX8_matchOf_15 : decode cX8_matchOf 15 = .ok (.aload_n 0, 1) := by decide +kernel
theorem dX8_matchOf_16 : decode cX8_matchOf 16 = .ok (.iconst 0, 1) := by decide +kernel
theorem dX8_matchOf_17 : decode cX8_matchOf 17 = .ok (.putfield 137, 3) := by decide +kernel
theorem dX8_matchOf_20 : decode cX8_matchOf 20 = .ok (.aload_n 0, 1) := by decide +kernel
theorem dX8_matchOf_21 : decode cX8_matchOf 21 = .ok (.bipush (-9), 2) := by decide +kernel
theorem dX8_matchOf_23 : decode cX8_matchOf 23 = .ok (.putfield 185, 3) := by decide +kernel
theorem dX8_matchOf_26 : decode cX8_matchOf 26 = .ok (.aload_n 0, 1) := by decide +kernel
theorem dX8_matchOf_27 : decode cX8_matchOf 27 = .ok (.iconst 0, 1) := by decide +kernel
theorem dX8_matchOf_28 : decode cX8_matchOf 28 = .ok (.iconst 0, 1) := by decide +kernel
theorem dX8_matchOf_29 : decode cX8_matchOf 29 = .ok (.aload_n 0, 1) := by decide +kernel
theorem dX8_matchOf_30 : decode cX8_matchOf 30 = .ok (.iconst 0, 1) := by decide +kernel
theorem dX8_matchOf_31 : decode cX8_matchOf 31 = .ok (.invokevirtual 163, 3) := by decide +kernel
theorem dX8_matchOf_34 : decode cX8_matchOf 34 = .ok (.iconst 0, 1) := by decide +kernel
theorem dX8_matchOf_35 : decode cX8_matchOf 35 = .ok (.iconst 0, 1) := by decide +kernel
theorem dX8_matchOf_36 : decode cX8_matchOf 36 = .ok (.bipush (-9), 2) := by decide +kernel
theorem dX8_matchOf_38 : decode cX8_matchOf 38 = .ok (.iconst 0, 1) := by decide +kernel
theorem dX8_matchOf_39 : decode cX8_matchOf 39 = .ok (.invokevirtual 156, 3) := by decide +kernel
theorem dX8_matchOf_42 : decode cX8_matchOf 42 = .ok (.aload_n 0, 1) := by decide +kernel
theorem dX8_matchOf_43 : decode cX8_matchOf 43 = .ok (.getfield 140, 3) := by decide +kernel
theorem dX8_matchOf_46 : decode cX8_matchOf 46 = .ok (.ifCond .lt 17, 3) := by decide +kernel
theorem dX8_matchOf_49 : decode cX8_matchOf 49 = .ok (.aload_n 0, 1) := by decide +kernel
theorem dX8_matchOf_50 : decode cX8_matchOf 50 = .ok (.getfield 185, 3) := by decide +kernel
theorem dX8_matchOf_53 : decode cX8_matchOf 53 = .ok (.ifCond .ge 10, 3) := by decide +kernel
theorem dX8_matchOf_56 : decode cX8_matchOf 56 = .ok (.aload_n 0, 1) := by decide +kernel
theorem dX8_matchOf_57 : decode cX8_matchOf 57 = .ok (.invokevirtual 198, 3) := by decide +kernel
theorem dX8_matchOf_60 : decode cX8_matchOf 60 = .ok (.goto (-18), 3) := by decide +kernel
theorem dX8_matchOf_63 : decode cX8_matchOf 63 = .ok (.aload_n 0, 1) := by decide +kernel
theorem dX8_matchOf_64 : decode cX8_matchOf 64 = .ok (.getfield 185, 3) := by decide +kernel
theorem dX8_matchOf_67 : decode cX8_matchOf 67 = .ok (.ireturn, 1) := by decide +kernel
theorem mo_step {y1 y2 : Int32} {Q : List Value → Wd → Prop} : STEPC (fun D => X 5 138 j_X8_matchOf 42 [some (.ref 104), some (.int y1), some (.int y2)] [] (138, P0, D) Q) := by
  intro D t h1 h2 h3 Φ hΦ hk
  refine X_aload_n (nx := 43) dX8_matchOf_42 rfl rfl rfl ?_
  refine M_getI (nx := 46) dX8_matchOf_43 rfl fl_RX8_140 rfl (by first | assumption | rfl | decide | omega) (by first | assumption | rfl | decide | omega) ?_
  refine X_top (h1) ?_
  refine X_if_lt (tgt := 63) (nx := 49) dX8_matchOf_46 rfl rfl (fun h46 => ?_) (fun h46 => ?_)
  · exact absurd h46 (nI_neg (by omega))
  · skip
    refine X_aload_n (nx := 50) dX8_matchOf_49 rfl rfl rfl ?_
    refine M_getI (nx := 53) dX8_matchOf_50 rfl fl_RX8_185 rfl (by first | assumption | rfl | decide | omega) (by first | assumption | rfl | decide | omega) ?_
    refine X_top (h3) ?_
    refine X_if_ge (tgt := 63) (nx := 56) dX8_matchOf_53 rfl rfl (fun h53 => ?_) (fun h53 => ?_)
    · exact absurd h53 (by decide)
    · skip
      refine X_aload_n (nx := 57) dX8_matchOf_56 rfl rfl rfl ?_
      refine Z_Vv0 (nx := 60) dX8_matchOf_57 rfl ml_RX8_198 kj_X8_goesStage kv_X8_goesStage (hΦ) (by first | assumption | rfl | decide | omega) (by first | assumption | rfl | decide | omega) (by decide) rfl (by first | decide | omega) (by exact Nat.le_of_ble_eq_true rfl) (fun D57 g57 => ?_)
      refine X_goto (tgt := 42) dX8_matchOf_60 rfl ?_
      exact hk D57 g57
theorem mo_fail {y1 y2 : Int32} {D : Mem} {Φ : Int32 → Mem → Prop} (h1 : D 104 21 = nI 0 - 1) (h3 : D 104 23 = -9) (hk : Φ (-9) D) : X 5 138 j_X8_matchOf 42 [some (.ref 104), some (.int y1), some (.int y2)] [] (138, P0, D) (fun r σ => ∃ (u : Int32) (D' : Mem), r = [.int u] ∧ σ = wd D' ∧ Φ u D') := by
  refine X_aload_n (nx := 43) dX8_matchOf_42 rfl rfl rfl ?_
  refine M_getI (nx := 46) dX8_matchOf_43 rfl fl_RX8_140 rfl (by first | assumption | rfl | decide | omega) (by first | assumption | rfl | decide | omega) ?_
  refine X_top (h1) ?_
  refine X_if_lt (tgt := 63) (nx := 49) dX8_matchOf_46 rfl rfl (fun h46 => ?_) (fun h46 => ?_)
  · skip
    refine X_aload_n (nx := 64) dX8_matchOf_63 rfl rfl rfl ?_
    refine M_getI (nx := 67) dX8_matchOf_64 rfl fl_RX8_185 rfl (by first | assumption | rfl | decide | omega) (by first | assumption | rfl | decide | omega) ?_
    refine X_top (h3) ?_
    exact Z_reti dX8_matchOf_67 (Or.inl rfl) hk
  · exact absurd h46 (fun q => q m1_lt)
theorem mo_ok {y1 y2 : Int32} {D : Mem} {t e : Nat} {Φ : Int32 → Mem → Prop} (h1 : D 104 21 = nI t) (ht : t ≤ 6) (h3 : D 104 23 = nI e) (he : e < 10) (hk : Φ (nI e) D) : X 5 138 j_X8_matchOf 42 [some (.ref 104), some (.int y1), some (.int y2)] [] (138, P0, D) (fun r σ => ∃ (u : Int32) (D' : Mem), r = [.int u] ∧ σ = wd D' ∧ Φ u D') := by
  refine X_aload_n (nx := 43) dX8_matchOf_42 rfl rfl rfl ?_
  refine M_getI (nx := 46) dX8_matchOf_43 rfl fl_RX8_140 rfl (by first | assumption | rfl | decide | omega) (by first | assumption | rfl | decide | omega) ?_
  refine X_top (h1) ?_
  refine X_if_lt (tgt := 63) (nx := 49) dX8_matchOf_46 rfl rfl (fun h46 => ?_) (fun h46 => ?_)
  · exact absurd h46 (nI_neg (by omega))
  · skip
    refine X_aload_n (nx := 50) dX8_matchOf_49 rfl rfl rfl ?_
    refine M_getI (nx := 53) dX8_matchOf_50 rfl fl_RX8_185 rfl (by first | assumption | rfl | decide | omega) (by first | assumption | rfl | decide | omega) ?_
    refine X_top (h3) ?_
    refine X_if_ge (tgt := 63) (nx := 56) dX8_matchOf_53 rfl rfl (fun h53 => ?_) (fun h53 => ?_)
    · skip
      refine X_aload_n (nx := 64) dX8_matchOf_63 rfl rfl rfl ?_
      refine M_getI (nx := 67) dX8_matchOf_64 rfl fl_RX8_185 rfl (by first | assumption | rfl | decide | omega) (by first | assumption | rfl | decide | omega) ?_
      refine X_top (h3) ?_
      exact Z_reti dX8_matchOf_67 (Or.inl rfl) hk
    · exact absurd h53 (fun q => q (nI_pos' (by omega)))
theorem mo_start {B : Bk} {T : Nat → Bool} {K F : Nat → Nat} {v p : Nat} {D D1 D2 : Mem} (hV : VB B) (h0 : RB D B T K F) (h1 : LT D1 (pathL p)) (h2 : Fq SOP D D1) (h3 : Fq (fun b i => b = 104 ∧ (21 ≤ i ∧ i ≤ 24)) D1 D2) (h4 : D2 104 24 = nI v) (h5 : D2 104 23 = -9) {D3 : Mem} (g : PSH D2 D3 0 0 0 (nI (mkn (soP B T 0) (cm_ B))) 0 0 (-9) 0 (s0_ K F 0 (pathL p).length 0)) : NODE B T K F (pathL p) v D3 0 (0, []) 0 [] (s0_ K F 0 (pathL p).length 0) 0 false 0 := by
  obtain ⟨g1, g2, g3, g4, g5, g6, g7, g8, g9, g10, g11, g12⟩ := g
  have e1 : Fq SCR D D3 := ((h2.mono (fun b i q => by unfold SOP at q; unfold SCR; omega)).tr (h3.mono (fun b i q => by unfold SCR; omega))).tr (g12.mono (fun b i q => by unfold SPU at q; unfold SCR; omega))
  refine ⟨⟨h0.fq e1, h1.fq ?_ ?_, ?_⟩, g1, ?_, ⟨rfl, g7⟩, ⟨0, -9, g3, g4, by rw [g5, so_NW hV], g6, g7, g11, g10, g8, g9⟩, fun u hu => absurd hu (by omega)⟩
  · rw [g12 104 11 (by unfold SPU; omega), h3 104 11 (by omega)]
  · rw [g12.row (b := 114) (fun i => by unfold SPU; omega), h3.row (b := 114) (fun i => by omega)]
  · rw [g12 104 24 (by unfold SPU; omega)]; exact h4
  · rw [g12 104 23 (by unfold SPU; omega)]; exact h5
theorem pos_0 {L : List Nat} : POS L 0 (0, []) 0 [] := ⟨by show 0 < 3; omega, Nat.le_refl _, Nat.zero_le _, Nat.le_refl _, rfl⟩
theorem sb_sm {D D' : Mem} (h : Fq (SB 0) D D') : Fq SM D D' := h.mono (fun b i q => by unfold SB at q; unfold SM; omega)
theorem mt_lkB {B : Bk} {w v p : Nat} {K F : Nat → Nat} : mt B w v p K F = addc 1 (lkB B w v (pathL p) K F 6 (0, []) 0 []) := lk_s
theorem mo_1 {B : Bk} {T : Nat → Bool} {K F : Nat → Nat} {v p : Nat} {D D2 D3 D4 : Mem} (hq : Fq SM D D2) (h22 : D2 104 22 = 0) (g : PSH D2 D3 0 0 0 (nI (mkn (soP B T 0) (cm_ B))) 0 0 (-9) 0 (s0_ K F 0 (pathL p).length 0)) (hr : (lkB B (wT B T) v (pathL p) K F 6 (0, []) 0 []).1 = none) (f : FAILP B T K F (pathL p) v D3 D4 0 false 0 (lkB B (wT B T) v (pathL p) K F 6 (0, []) 0 []).2) : BR2 B T K F v p D (-9) D4 := by
  obtain ⟨f1, f2, f3, f4, f5, f6⟩ := f
  have hm : (mt B (wT B T) v p K F).1 = none := by rw [mt_lkB]; exact hr
  refine ⟨f1, (hq.tr (g.2.2.2.2.2.2.2.2.2.2.2.mono (fun b i q => by unfold SPU at q; unfold SM; omega))).tr (sb_sm f5), by unfold mtE; rw [hm]; rfl, ?_, f3, fun e ml k hk => by rw [hm] at hk; cases hk⟩
  rw [f4, g.2.1, h22, mt_lkB]
  show 0 + 1 + nI _ = nI (1 + _)
  rw [Int32.zero_add, show (1 : Int32) = nI 1 from rfl, nI_add]
theorem mo_2 {B : Bk} {T : Nat → Bool} {K F : Nat → Nat} {v p e k : Nat} {ml : List (Nat × Nat)} {D D2 D3 D4 : Mem} (hq : Fq SM D D2) (h22 : D2 104 22 = 0) (g : PSH D2 D3 0 0 0 (nI (mkn (soP B T 0) (cm_ B))) 0 0 (-9) 0 (s0_ K F 0 (pathL p).length 0)) (hr : (lkB B (wT B T) v (pathL p) K F 6 (0, []) 0 []).1 = some (e, ml, k)) (f : OKP B T K F (pathL p) v D3 D4 0 e ml k (lkB B (wT B T) v (pathL p) K F 6 (0, []) 0 []).2) : BR2 B T K F v p D (nI e) D4 := by
  obtain ⟨f1, f2, f4, f5, f6, f7, f8⟩ := f
  have hm : (mt B (wT B T) v p K F).1 = some (e, ml, k) := by rw [mt_lkB]; exact hr
  refine ⟨f1, (hq.tr (g.2.2.2.2.2.2.2.2.2.2.2.mono (fun b i q => by unfold SPU at q; unfold SM; omega))).tr (sb_sm f5), by unfold mtE; rw [hm]; rfl, ?_, f2, fun e' ml' k' hk => by rw [hm] at hk; cases hk; exact ⟨f6, f7, f8⟩⟩
  rw [f4, g.2.1, h22, mt_lkB]
  show 0 + 1 + nI _ = nI (1 + _)
  rw [Int32.zero_add, show (1 : Int32) = nI 1 from rfl, nI_add]
def moD (D : Mem) (v : Nat) : Mem := up2 (up2 (up2 (up2 D 104 24 (nI v)) 104 21 (-1)) 104 22 0) 104 23 (-9)
theorem moD_fq {D : Mem} {v : Nat} : Fq (fun b i => b = 104 ∧ (21 ≤ i ∧ i ≤ 24)) D (moD D v) := by
  unfold moD
  refine Fq.up' (Fq.up' (Fq.up' (Fq.up' Fq.rf ?_) ?_) ?_) ?_ <;> omega
theorem moD_at {D : Mem} {v : Nat} : moD D v 104 24 = nI v ∧ moD D v 104 21 = -1 ∧ moD D v 104 22 = 0 ∧ moD D v 104 23 = -9 := by
  refine ⟨?_, ?_, ?_, ?_⟩ <;> simp [moD, up2]
theorem sp_X8_matchOf {v p : Nat} {x y : Int32} {B : Bk} {T : Nat → Bool} {K F : Nat → Nat} {D : Mem} (h : RB D B T K F) (hV : VB B) (hK : ∀ i, i < 3 → K i ≤ 5 ∧ F i ≤ 9) (hT : TLE B T) (hx : x = nI p) (hp : p < 341) (hy : y = nI v) (hv : v < 4) : Rix 5 j_X8_matchOf [.ref 104, .int x, .int y] D (fun u D' => BR2 B T K F v p D u D') := by
  refine E.start 0 (ls := [some (.ref 104), some (.int x), some (.int y)]) (by decide +kernel) (Nat.le_of_ble_eq_true rfl) rfl (Nat.le_refl _) (Nat.le_refl _) ?_
  subst hx; subst hy
  refine X_aload_n (nx := 1) dX8_matchOf_0 rfl rfl rfl ?_
  refine X_iload_n (nx := 2) dX8_matchOf_1 rfl rfl rfl ?_
  refine Z_Vv1 (nx := 5) dX8_matchOf_2 rfl ml_RX8_195 kj_X8_opens kv_X8_opens (sp_X8_opens rfl hp) (by first | assumption | rfl | decide | omega) (by first | assumption | rfl | decide | omega) (by decide) rfl (by first | decide | omega) (by exact Nat.le_of_ble_eq_true rfl) (fun D2 g2 => ?_)
  refine X_aload_n (nx := 6) dX8_matchOf_5 rfl rfl rfl ?_
  refine X_iload_n (nx := 7) dX8_matchOf_6 rfl rfl rfl ?_
  refine M_putI (nx := 10) dX8_matchOf_7 rfl fl_RX8_143 rfl rfl (by first | assumption | rfl | decide | omega) (by first | assumption | rfl | decide | omega) ?_
  refine X_aload_n (nx := 11) dX8_matchOf_10 rfl rfl rfl ?_
  refine X_iconst (v := -1) (nx := 12) dX8_matchOf_11 rfl rfl ?_
  refine M_putI (nx := 15) dX8_matchOf_12 rfl fl_RX8_140 rfl rfl (by first | assumption | rfl | decide | omega) (by first | assumption | rfl | decide | omega) ?_
  refine X_aload_n (nx := 16) dX8_matchOf_15 rfl rfl rfl ?_
  refine X_iconst (v := 0) (nx := 17) dX8_matchOf_16 rfl rfl ?_
  refine M_putI (nx := 20) dX8_matchOf_17 rfl fl_RX8_137 rfl rfl (by first | assumption | rfl | decide | omega) (by first | assumption | rfl | decide | omega) ?_
  refine X_aload_n (nx := 21) dX8_matchOf_20 rfl rfl rfl ?_
  refine X_bipush (v := -9) (nx := 23) dX8_matchOf_21 rfl rfl ?_
  refine M_putI (nx := 26) dX8_matchOf_23 rfl fl_RX8_185 rfl rfl (by first | assumption | rfl | decide | omega) (by first | assumption | rfl | decide | omega) ?_
  show X 5 138 j_X8_matchOf 26 _ [] (138, P0, moD D2 v) _
  have hq2 : Fq SM D (moD D2 v) := (g2.2.mono (fun b i q => by unfold SOP at q; unfold SM; omega)).tr (moD_fq.mono (fun b i q => by unfold SM; omega))
  have hB9 := h.fq (hq2.mono (fun b i q => q.scr))
  have hL9 : LT (moD D2 v) (pathL p) := g2.1.fq (moD_fq 104 11 (by omega)) (moD_fq.row (fun i => by omega))
  refine X_aload_n (nx := 27) dX8_matchOf_26 rfl rfl rfl ?_
  refine X_iconst (v := 0) (nx := 28) dX8_matchOf_27 rfl rfl ?_
  refine X_iconst (v := 0) (nx := 29) dX8_matchOf_28 rfl rfl ?_
  refine X_aload_n (nx := 30) dX8_matchOf_29 rfl rfl rfl ?_
  refine X_iconst (v := 0) (nx := 31) dX8_matchOf_30 rfl rfl ?_
  refine Y_Vi1 (nx := 34) dX8_matchOf_31 rfl ml_RX8_163 kj_X8_setOf kv_X8_setOf (sp_X8_setOf (R := 0) hB9 hV rfl (by omega)) (by first | assumption | rfl | decide | omega) (by first | assumption | rfl | decide | omega) (by decide) rfl (by first | decide | omega) (by exact Nat.le_of_ble_eq_true rfl) ?_
  refine X_iconst (v := 0) (nx := 35) dX8_matchOf_34 rfl rfl ?_
  refine X_iconst (v := 0) (nx := 36) dX8_matchOf_35 rfl rfl ?_
  refine X_bipush (v := -9) (nx := 38) dX8_matchOf_36 rfl rfl ?_
  refine X_iconst (v := 0) (nx := 39) dX8_matchOf_38 rfl rfl ?_
  refine Z_Vv7 (nx := 42) dX8_matchOf_39 rfl ml_RX8_156 kj_X8_looksAt kv_X8_looksAt (sp_X8_looksAt (t := 0) (R := 0) (a := 0) hB9 hV hK hL9 (moD_at.2.1.trans (by decide)) (by omega) rfl (by omega) rfl (Nat.zero_le _)) (by first | assumption | rfl | decide | omega) (by first | assumption | rfl | decide | omega) (by decide) rfl (by first | decide | omega) (by exact Nat.le_of_ble_eq_true rfl) (fun D39 g39 => ?_)
  have hn := mo_start hV h g2.1 g2.2 moD_fq moD_at.1 moD_at.2.2.2 g39
  refine s_main hV hK hT mo_step hv 6 (0, []) 0 [] 0 D39 false 0 rfl pos_0 hn (fun D4 r1 f => ?_) (fun D4 e ml k r1 f => ?_)
  · exact mo_fail f.2.1 f.2.2.1 (mo_1 hq2 moD_at.2.2.1 g39 r1 f)
  · have hr := mo_2 hq2 moD_at.2.2.1 g39 r1 f
    obtain ⟨f1, f2, f4, f5, f6, f7, t, f8, f9, f10⟩ := f
    exact mo_ok f8 f9 f2 f7 hr
