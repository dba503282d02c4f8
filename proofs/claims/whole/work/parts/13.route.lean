/-! ROUTES, PATHS, BOOKS of the class -/
theorem ior_step {p : Nat → Bool} {i : Nat} (h : p i = true) (hi : i < 31) : nI (mkn p i) ||| (1 : Int32) <<< (nI i &&& 31) = nI (mkn p (i + 1)) := by
  rw [one_shl i hi, nI_or]
  show _ = nI (if p i = true then _ else _)
  rw [if_pos h]
theorem ior_skip {p : Nat → Bool} {i : Nat} (h : p i = false) : mkn p i = mkn p (i + 1) := by
  show _ = if p i = true then _ else _
  rw [if_neg (by rw [h]; decide)]
theorem opI_lt {o : Option Nat} (h : opI o < 0) (hb : ∀ k, o = some k → k < 2147483648) : o = none := by
  cases o with
  | none => rfl
  | some k => exact absurd h (nI_neg (hb k rfl))
theorem opI_ge {o : Option Nat} (h : ¬ opI o < 0) : o.isSome = true := by
  cases o with
  | none => exact absurd (by decide) h
  | some k => rfl
theorem dX4_parameterBits_0 : decode cX4_parameterBits 0 = .ok (.iconst 0, 1) := by decide +kernel
theorem dX4_parameterBits_1 : decode cX4_parameterBits 1 = .ok (.istore_n 1, 1) := by decide +kernel
theorem dX4_parameterBits_2 : decode cX4_parameterBits 2 = .ok (.iconst 0, 1) := by decide +kernel
theorem dX4_parameterBits_3 : decode cX4_parameterBits 3 = .ok (.istore_n 2, 1) := by decide +kernel
theorem dX4_parameterBits_4 : decode cX4_parameterBits 4 = .ok (.iload_n 2, 1) := by decide +kernel
theorem dX4_parameterBits_5 : decode cX4_parameterBits 5 = .ok (.iconst 4, 1) := by decide +kernel
theorem dX4_parameterBits_6 : decode cX4_parameterBits 6 = .ok (.if_icmp .ge 23, 3) := by decide +kernel
theorem dX4_parameterBits_9 : decode cX4_parameterBits 9 = .ok (.aload_n 0, 1) := by decide +kernel
theorem dX4_parameterBits_10 : decode cX4_parameterBits 10 = .ok (.iload_n 2, 1) := by decide +kernel
theorem dX4_parameterBits_11 : decode cX4_parameterBits 11 = .ok (.invokevirtual 51, 3) := by decide +kernel
theorem dX4_parameterBits_14 : decode cX4_parameterBits 14 = .ok (.ifCond .lt 9, 3) := by decide +kernel
theorem dX4_parameterBits_17 : decode cX4_parameterBits 17 = .ok (.iload_n 1, 1) := by decide +kernel
theorem dX4_parameterBits_18 : decode cX4_parameterBits 18 = .ok (.iconst 1, 1) := by decide +kernel
theorem dX4_parameterBits_19 : decode cX4_parameterBits 19 = .ok (.iload_n 2, 1) := by decide +kernel
theorem dX4_parameterBits_20 : decode cX4_parameterBits 20 = .ok (.ishl, 1) := by decide +kernel
theorem dX4_parameterBits_21 : decode cX4_parameterBits 21 = .ok (.ior, 1) := by decide +kernel
theorem dX4_parameterBits_22 : decode cX4_parameterBits 22 = .ok (.istore_n 1, 1) := by decide +kernel
theorem dX4_parameterBits_23 : decode cX4_parameterBits 23 = .ok (.iinc 2 1, 3) := by decide +kernel
theorem dX4_parameterBits_26 : decode cX4_parameterBits 26 = .ok (.goto (-22), 3) := by decide +kernel
theorem dX4_parameterBits_29 : decode cX4_parameterBits 29 = .ok (.iload_n 1, 1) := by decide +kernel
theorem dX4_parameterBits_30 : decode cX4_parameterBits 30 = .ok (.ireturn, 1) := by decide +kernel
theorem lp_X4_parameterBits {r : Nat} {s : List Nat} {D : Mem} (hr : isR r) (h : SEG D r s) : ∀ (m : Nat) (i : Nat), i + m = 4 → X 3 138 j_X4_parameterBits 4 [some (.ref r), some (.int (nI (mkn (fun k => (plOf s k 0 (pl s)).isSome) i))), some (.int (nI i))] [] (138, P0, D) (fun r σ => r = [.int (nI (mkn (fun k => (plOf s k 0 (pl s)).isSome) 4))] ∧ σ = wd D) := by
  intro m
  induction m with
  | zero =>
    intro i hi
    obtain ⟨q1, q2, q3, q4, q5, q6⟩ := hr.facts
    refine X_iload_n (nx := 5) dX4_parameterBits_4 rfl rfl rfl ?_
    refine X_iconst (v := nI 4) (nx := 6) dX4_parameterBits_5 rfl rfl ?_
    refine X_icmp_ge (tgt := 29) (nx := 9) dX4_parameterBits_6 rfl rfl (fun h6 => ?_) (fun h6 => ?_)
    · skip
      refine X_iload_n (nx := 30) dX4_parameterBits_29 rfl rfl rfl ?_
      exact Y_reti dX4_parameterBits_30 (Or.inl rfl) (by rw [show i = 4 by omega]) rfl
    · exact absurd h6 (fun q => q (nI_le (by omega) (by omega)))
  | succ m ih =>
    intro i hi
    obtain ⟨q1, q2, q3, q4, q5, q6⟩ := hr.facts
    refine X_iload_n (nx := 5) dX4_parameterBits_4 rfl rfl rfl ?_
    refine X_iconst (v := nI 4) (nx := 6) dX4_parameterBits_5 rfl rfl ?_
    refine X_icmp_ge (tgt := 29) (nx := 9) dX4_parameterBits_6 rfl rfl (fun h6 => ?_) (fun h6 => ?_)
    · exact absurd h6 (nI_ge (by omega) (by omega))
    · skip
      refine X_aload_n (nx := 10) dX4_parameterBits_9 rfl rfl rfl ?_
      refine X_iload_n (nx := 11) dX4_parameterBits_10 rfl rfl rfl ?_
      refine Y_Vi1 (nx := 14) dX4_parameterBits_11 rfl ml_RX4_51 kj_X4_placeOf kv_X4_placeOf (sp_X4_placeOf hr h (p := i) (by omega) rfl) (by first | assumption | rfl | decide | omega) (by first | assumption | rfl | decide | omega) (by decide) rfl (by first | decide | omega) (by exact Nat.le_of_ble_eq_true rfl) ?_
      refine X_if_lt (tgt := 23) (nx := 17) dX4_parameterBits_14 rfl rfl (fun h14 => ?_) (fun h14 => ?_)
      · skip
        have hn := opI_lt h14 (fun k hk => by have := (fst_some hk).2.1; have := pl_le s; have := h.1; omega)
        have hsk : mkn (fun k => (plOf s k 0 (pl s)).isSome) i = mkn (fun k => (plOf s k 0 (pl s)).isSome) (i + 1) := ior_skip (p := (fun k => (plOf s k 0 (pl s)).isSome)) (by show (plOf s i 0 (pl s)).isSome = false; rw [hn]; rfl)
        rw [hsk]
        refine X_iinc (nx := 26) dX4_parameterBits_23 rfl (by decide) rfl (by first | exact ii1 _ | rfl) rfl (st_s (st_s (st_0))) ?_
        refine X_goto (tgt := 4) dX4_parameterBits_26 rfl ?_
        exact ih (i + 1) (by omega)
      · skip
        refine X_iload_n (nx := 18) dX4_parameterBits_17 rfl rfl rfl ?_
        refine X_iconst (v := 1) (nx := 19) dX4_parameterBits_18 rfl rfl ?_
        refine X_iload_n (nx := 20) dX4_parameterBits_19 rfl rfl rfl ?_
        refine X_ishl (nx := 21) dX4_parameterBits_20 rfl ?_
        refine X_ior (nx := 22) dX4_parameterBits_21 rfl ?_
        refine X_top (ior_step (p := (fun k => (plOf s k 0 (pl s)).isSome)) (opI_ge h14) (by omega)) ?_
        refine X_istore_n (i := 1) (nx := 23) dX4_parameterBits_22 rfl rfl (by decide) rfl (st_s (st_0)) ?_
        refine X_iinc (nx := 26) dX4_parameterBits_23 rfl (by decide) rfl (by first | exact ii1 _ | rfl) rfl (st_s (st_s (st_0))) ?_
        refine X_goto (tgt := 4) dX4_parameterBits_26 rfl ?_
        exact ih (i + 1) (by omega)
theorem sp_X4_parameterBits {r : Nat} {s : List Nat} {D : Mem} (hr : isR r) (h : SEG D r s) : Ei 3 j_X4_parameterBits [.ref r] D (nI (mkn (fun k => (plOf s k 0 (pl s)).isSome) 4)) (D) := by
  refine E.start 2 (ls := [some (.ref r), none, none]) (by decide +kernel) (Nat.le_of_ble_eq_true rfl) rfl (Nat.le_refl _) (Nat.le_refl _) ?_
  refine X_iconst (v := 0) (nx := 1) dX4_parameterBits_0 rfl rfl ?_
  refine X_istore_n (i := 1) (nx := 2) dX4_parameterBits_1 rfl rfl (by decide) rfl (st_s (st_0)) ?_
  refine X_iconst (v := 0) (nx := 3) dX4_parameterBits_2 rfl rfl ?_
  refine X_istore_n (i := 2) (nx := 4) dX4_parameterBits_3 rfl rfl (by decide) rfl (st_s (st_s (st_0))) ?_
  exact lp_X4_parameterBits hr h 4 0 rfl
theorem seg10 {s : Nat} (h : s ≤ 40) : nI s / 10 * 10 = nI (s / 10 * 10) := by
  rw [show (nI s / 10 : Int32) = nI (s / 10) from pk_div (d := 10) (by omega) (by omega) (by omega)]
  exact pk_mul (s / 10) 10
/-- a segment that can be: a letter, or with a parameter, or REST -/
def sgv (s : Nat) : Prop := s < 4 ∨ (10 ≤ s ∧ s < 14) ∨ (20 ≤ s ∧ s < 24) ∨ (30 ≤ s ∧ s < 34) ∨ s = 40
theorem sgv_le {s : Nat} (h : sgv s) : s ≤ 40 := by unfold sgv at h; omega
/-- whether a segment of a type takes a letter -/
def fitT (t l : Nat) : Bool := if t < 4 then decide (t = l) else decide (t = 6) || decide (t = if l < 2 then 4 else 5)
theorem fitT_1 {s l : Nat} (h : s < 4) : fitT (typ s) l = decide (s = l) := by
  unfold fitT typ
  rw [if_pos (show s < 10 by omega), if_pos h]
theorem fitT_2 {s l : Nat} (h : 10 ≤ s ∧ s < 14) : fitT (typ s) l = decide (l < 2) := by
  unfold fitT typ
  rw [if_neg (show ¬ s < 10 by omega), show s / 10 = 1 by omega]
  by_cases hl : l < 2 <;> simp [hl]
theorem fitT_3 {s l : Nat} (h : 20 ≤ s ∧ s < 24) : fitT (typ s) l = decide (2 ≤ l) := by
  unfold fitT typ
  rw [if_neg (show ¬ s < 10 by omega), show s / 10 = 2 by omega]
  by_cases hl : l < 2
  · rw [if_pos hl]; simp; omega
  · rw [if_neg hl]; simp; omega
theorem fitT_4 {s l : Nat} (h : 30 ≤ s ∧ s < 34) : fitT (typ s) l = true := by
  unfold fitT typ
  rw [if_neg (show ¬ s < 10 by omega), show s / 10 = 3 by omega]
  simp
theorem fitT_5 {s l : Nat} (h : s = 40) : fitT (typ s) l = false := by
  subst h
  unfold fitT typ
  by_cases hl : l < 2 <;> simp [hl]
theorem i_eq {x y : Int32} {p : Bool} (h : p = true) (he : x = y) (hy : y = 1) : x = b2i p := by rw [h, he, hy]; rfl
theorem dX5_edgeOf_0 : decode cX5_edgeOf 0 = .ok (.iload_n 0, 1) := by decide +kernel
theorem dX5_edgeOf_1 : decode cX5_edgeOf 1 = .ok (.bipush 10, 2) := by decide +kernel
theorem dX5_edgeOf_3 : decode cX5_edgeOf 3 = .ok (.idiv, 1) := by decide +kernel
theorem dX5_edgeOf_4 : decode cX5_edgeOf 4 = .ok (.bipush 10, 2) := by decide +kernel
theorem dX5_edgeOf_6 : decode cX5_edgeOf 6 = .ok (.imul, 1) := by decide +kernel
theorem dX5_edgeOf_7 : decode cX5_edgeOf 7 = .ok (.lookupswitch 39 #[(0, 33), (10, 35), (20, 37)], 33) := by decide +kernel
theorem dX5_edgeOf_40 : decode cX5_edgeOf 40 = .ok (.iload_n 0, 1) := by decide +kernel
theorem dX5_edgeOf_41 : decode cX5_edgeOf 41 = .ok (.ireturn, 1) := by decide +kernel
theorem dX5_edgeOf_42 : decode cX5_edgeOf 42 = .ok (.iconst 4, 1) := by decide +kernel
theorem dX5_edgeOf_43 : decode cX5_edgeOf 43 = .ok (.ireturn, 1) := by decide +kernel
theorem dX5_edgeOf_44 : decode cX5_edgeOf 44 = .ok (.iconst 5, 1) := by decide +kernel
theorem dX5_edgeOf_45 : decode cX5_edgeOf 45 = .ok (.ireturn, 1) := by decide +kernel
theorem dX5_edgeOf_46 : decode cX5_edgeOf 46 = .ok (.bipush 6, 2) := by decide +kernel
theorem dX5_edgeOf_48 : decode cX5_edgeOf 48 = .ok (.ireturn, 1) := by decide +kernel
theorem sp_X5_edgeOf {s : Nat} {x : Int32} {D : Mem} (hx : x = nI s) (hs : sgv s) (h4 : s ≠ 40) : Ei 1 j_X5_edgeOf [.int x] D (nI (typ s)) (D) := by
  refine E.start 0 (ls := [some (.int x)]) (by decide +kernel) (Nat.le_of_ble_eq_true rfl) rfl (Nat.le_refl _) (Nat.le_refl _) ?_
  subst hx
  have hle := sgv_le hs
  refine X_iload_n (nx := 1) dX5_edgeOf_0 rfl rfl rfl ?_
  refine X_bipush (v := 10) (nx := 3) dX5_edgeOf_1 rfl rfl ?_
  refine X_idiv (nx := 4) dX5_edgeOf_3 rfl (by decide) ?_
  refine X_bipush (v := 10) (nx := 6) dX5_edgeOf_4 rfl rfl ?_
  refine X_imul (nx := 7) dX5_edgeOf_6 rfl ?_
  refine X_top (seg10 hle) ?_
  rcases hs with hs | hs | hs | hs | hs
  · skip
    refine X_top (y := 0) (congrArg nI (show s / 10 * 10 = 0 by omega)) ?_
    refine X_lookup (tgt := 40) (off := 33) dX5_edgeOf_7 (by decide) (by decide) rfl ?_
    refine X_iload_n (nx := 41) dX5_edgeOf_40 rfl rfl rfl ?_
    exact Y_reti dX5_edgeOf_41 (Or.inl rfl) (by first | exact congrArg nI (show s = typ s by unfold typ; rw [if_pos (by omega)]) | exact congrArg nI (show 4 = typ s by unfold typ; rw [if_neg (by omega)]; omega) | exact congrArg nI (show 5 = typ s by unfold typ; rw [if_neg (by omega)]; omega) | exact congrArg nI (show 6 = typ s by unfold typ; rw [if_neg (by omega)]; omega) | exact absurd hs h4) rfl
  · skip
    refine X_top (y := 10) (congrArg nI (show s / 10 * 10 = 10 by omega)) ?_
    refine X_lookup (tgt := 42) (off := 35) dX5_edgeOf_7 (by decide) (by decide) rfl ?_
    refine X_iconst (v := 4) (nx := 43) dX5_edgeOf_42 rfl rfl ?_
    exact Y_reti dX5_edgeOf_43 (Or.inl rfl) (by first | exact congrArg nI (show s = typ s by unfold typ; rw [if_pos (by omega)]) | exact congrArg nI (show 4 = typ s by unfold typ; rw [if_neg (by omega)]; omega) | exact congrArg nI (show 5 = typ s by unfold typ; rw [if_neg (by omega)]; omega) | exact congrArg nI (show 6 = typ s by unfold typ; rw [if_neg (by omega)]; omega) | exact absurd hs h4) rfl
  · skip
    refine X_top (y := 20) (congrArg nI (show s / 10 * 10 = 20 by omega)) ?_
    refine X_lookup (tgt := 44) (off := 37) dX5_edgeOf_7 (by decide) (by decide) rfl ?_
    refine X_iconst (v := 5) (nx := 45) dX5_edgeOf_44 rfl rfl ?_
    exact Y_reti dX5_edgeOf_45 (Or.inl rfl) (by first | exact congrArg nI (show s = typ s by unfold typ; rw [if_pos (by omega)]) | exact congrArg nI (show 4 = typ s by unfold typ; rw [if_neg (by omega)]; omega) | exact congrArg nI (show 5 = typ s by unfold typ; rw [if_neg (by omega)]; omega) | exact congrArg nI (show 6 = typ s by unfold typ; rw [if_neg (by omega)]; omega) | exact absurd hs h4) rfl
  · skip
    refine X_top (y := 30) (congrArg nI (show s / 10 * 10 = 30 by omega)) ?_
    refine X_lookup (tgt := 46) (off := 39) dX5_edgeOf_7 (by decide) (by decide) rfl ?_
    refine X_bipush (v := 6) (nx := 48) dX5_edgeOf_46 rfl rfl ?_
    exact Y_reti dX5_edgeOf_48 (Or.inl rfl) (by first | exact congrArg nI (show s = typ s by unfold typ; rw [if_pos (by omega)]) | exact congrArg nI (show 4 = typ s by unfold typ; rw [if_neg (by omega)]; omega) | exact congrArg nI (show 5 = typ s by unfold typ; rw [if_neg (by omega)]; omega) | exact congrArg nI (show 6 = typ s by unfold typ; rw [if_neg (by omega)]; omega) | exact absurd hs h4) rfl
  · skip
    refine X_top (y := 40) (absurd hs h4) ?_
    refine X_lookup (tgt := 46) (off := 39) dX5_edgeOf_7 (by decide) (by decide) rfl ?_
    refine X_bipush (v := 6) (nx := 48) dX5_edgeOf_46 rfl rfl ?_
    exact Y_reti dX5_edgeOf_48 (Or.inl rfl) (by first | exact congrArg nI (show s = typ s by unfold typ; rw [if_pos (by omega)]) | exact congrArg nI (show 4 = typ s by unfold typ; rw [if_neg (by omega)]; omega) | exact congrArg nI (show 5 = typ s by unfold typ; rw [if_neg (by omega)]; omega) | exact congrArg nI (show 6 = typ s by unfold typ; rw [if_neg (by omega)]; omega) | exact absurd hs h4) rfl
theorem dX7_fits_0 : decode cX7_fits 0 = .ok (.iload_n 0, 1) := by decide +kernel
theorem dX7_fits_1 : decode cX7_fits 1 = .ok (.bipush 10, 2) := by decide +kernel
theorem dX7_fits_3 : decode cX7_fits 3 = .ok (.idiv, 1) := by decide +kernel
theorem dX7_fits_4 : decode cX7_fits 4 = .ok (.bipush 10, 2) := by decide +kernel
theorem dX7_fits_6 : decode cX7_fits 6 = .ok (.imul, 1) := by decide +kernel
theorem dX7_fits_7 : decode cX7_fits 7 = .ok (.lookupswitch 66 #[(0, 33), (10, 44), (20, 55)], 33) := by decide +kernel
theorem dX7_fits_40 : decode cX7_fits 40 = .ok (.iload_n 0, 1) := by decide +kernel
theorem dX7_fits_41 : decode cX7_fits 41 = .ok (.iload_n 1, 1) := by decide +kernel
theorem dX7_fits_42 : decode cX7_fits 42 = .ok (.if_icmp .ne 7, 3) := by decide +kernel
theorem dX7_fits_45 : decode cX7_fits 45 = .ok (.iconst 1, 1) := by decide +kernel
theorem dX7_fits_46 : decode cX7_fits 46 = .ok (.goto 4, 3) := by decide +kernel
theorem dX7_fits_49 : decode cX7_fits 49 = .ok (.iconst 0, 1) := by decide +kernel
theorem dX7_fits_50 : decode cX7_fits 50 = .ok (.ireturn, 1) := by decide +kernel
theorem dX7_fits_51 : decode cX7_fits 51 = .ok (.iload_n 1, 1) := by decide +kernel
theorem dX7_fits_52 : decode cX7_fits 52 = .ok (.iconst 2, 1) := by decide +kernel
theorem dX7_fits_53 : decode cX7_fits 53 = .ok (.if_icmp .ge 7, 3) := by decide +kernel
theorem dX7_fits_56 : decode cX7_fits 56 = .ok (.iconst 1, 1) := by decide +kernel
theorem dX7_fits_57 : decode cX7_fits 57 = .ok (.goto 4, 3) := by decide +kernel
theorem dX7_fits_60 : decode cX7_fits 60 = .ok (.iconst 0, 1) := by decide +kernel
theorem dX7_fits_61 : decode cX7_fits 61 = .ok (.ireturn, 1) := by decide +kernel
theorem dX7_fits_62 : decode cX7_fits 62 = .ok (.iload_n 1, 1) := by decide +kernel
theorem dX7_fits_63 : decode cX7_fits 63 = .ok (.iconst 2, 1) := by decide +kernel
theorem dX7_fits_64 : decode cX7_fits 64 = .ok (.if_icmp .lt 7, 3) := by decide +kernel
theorem dX7_fits_67 : decode cX7_fits 67 = .ok (.iconst 1, 1) := by decide +kernel
theorem dX7_fits_68 : decode cX7_fits 68 = .ok (.goto 4, 3) := by decide +kernel
theorem dX7_fits_71 : decode cX7_fits 71 = .ok (.iconst 0, 1) := by decide +kernel
theorem dX7_fits_72 : decode cX7_fits 72 = .ok (.ireturn, 1) := by decide +kernel
theorem dX7_fits_73 : decode cX7_fits 73 = .ok (.iload_n 0, 1) := by decide +kernel
theorem dX7_fits_74 : decode cX7_fits 74 = .ok (.bipush 40, 2) := by decide +kernel
theorem dX7_fits_76 : decode cX7_fits 76 = .ok (.if_icmp .ge 7, 3) := by decide +kernel
theorem dX7_fits_79 : decode cX7_fits 79 = .ok (.iconst 1, 1) := by decide +kernel
theorem dX7_fits_80 : decode cX7_fits 80 = .ok (.goto 4, 3) := by decide +kernel
theorem dX7_fits_83 : decode cX7_fits 83 = .ok (.iconst 0, 1) := by decide +kernel
theorem dX7_fits_84 : decode cX7_fits 84 = .ok (.ireturn, 1) := by decide +kernel
theorem sp_X7_fits {s l : Nat} {x y : Int32} {D : Mem} (hx : x = nI s) (hs : sgv s) (hy : y = nI l) (hl : l < 4) : Ei 1 j_X7_fits [.int x, .int y] D (b2i (fitT (typ s) l)) (D) := by
  refine E.start 0 (ls := [some (.int x), some (.int y)]) (by decide +kernel) (Nat.le_of_ble_eq_true rfl) rfl (Nat.le_refl _) (Nat.le_refl _) ?_
  subst hx; subst hy
  have hle := sgv_le hs
  refine X_iload_n (nx := 1) dX7_fits_0 rfl rfl rfl ?_
  refine X_bipush (v := 10) (nx := 3) dX7_fits_1 rfl rfl ?_
  refine X_idiv (nx := 4) dX7_fits_3 rfl (by decide) ?_
  refine X_bipush (v := 10) (nx := 6) dX7_fits_4 rfl rfl ?_
  refine X_imul (nx := 7) dX7_fits_6 rfl ?_
  refine X_top (seg10 hle) ?_
  rcases hs with hs | hs | hs | hs | hs
  · skip
    refine X_top (y := 0) (congrArg nI (show s / 10 * 10 = 0 by omega)) ?_
    refine X_lookup (tgt := 40) (off := 33) dX7_fits_7 (by decide) (by decide) rfl ?_
    refine X_iload_n (nx := 41) dX7_fits_40 rfl rfl rfl ?_
    refine X_iload_n (nx := 42) dX7_fits_41 rfl rfl rfl ?_
    refine X_icmp_ne (tgt := 49) (nx := 45) dX7_fits_42 rfl rfl (fun h42 => ?_) (fun h42 => ?_)
    · skip
      rw [nI_eq (by omega) (by omega)] at h42
      refine X_iconst (v := 0) (nx := 50) dX7_fits_49 rfl rfl ?_
      exact Y_reti dX7_fits_50 (Or.inr ⟨rfl, by first | exact Or.inl rfl | exact Or.inr rfl | exact b2i_01 _ | assumption⟩) (by first | (rw [fitT_1 hs]; first | exact cl_t (by omega) | exact cl_f (by omega)) | (rw [fitT_2 hs]; first | exact cl_t (by omega) | exact cl_f (by omega)) | (rw [fitT_3 hs]; first | exact cl_t (by omega) | exact cl_f (by omega)) | (rw [fitT_4 hs]; first | rfl | (exfalso; omega)) | (rw [fitT_5 hs]; first | rfl | (exfalso; omega))) rfl
    · skip
      rw [nI_eq (by omega) (by omega)] at h42
      refine X_iconst (v := 1) (nx := 46) dX7_fits_45 rfl rfl ?_
      refine X_goto (tgt := 50) dX7_fits_46 rfl ?_
      exact Y_reti dX7_fits_50 (Or.inr ⟨rfl, by first | exact Or.inl rfl | exact Or.inr rfl | exact b2i_01 _ | assumption⟩) (by first | (rw [fitT_1 hs]; first | exact cl_t (by omega) | exact cl_f (by omega)) | (rw [fitT_2 hs]; first | exact cl_t (by omega) | exact cl_f (by omega)) | (rw [fitT_3 hs]; first | exact cl_t (by omega) | exact cl_f (by omega)) | (rw [fitT_4 hs]; first | rfl | (exfalso; omega)) | (rw [fitT_5 hs]; first | rfl | (exfalso; omega))) rfl
  · skip
    refine X_top (y := 10) (congrArg nI (show s / 10 * 10 = 10 by omega)) ?_
    refine X_lookup (tgt := 51) (off := 44) dX7_fits_7 (by decide) (by decide) rfl ?_
    refine X_iload_n (nx := 52) dX7_fits_51 rfl rfl rfl ?_
    refine X_iconst (v := nI 2) (nx := 53) dX7_fits_52 rfl rfl ?_
    refine X_icmp_ge (tgt := 60) (nx := 56) dX7_fits_53 rfl rfl (fun h53 => ?_) (fun h53 => ?_)
    · skip
      rw [nI_leI (by omega) (by omega)] at h53
      refine X_iconst (v := 0) (nx := 61) dX7_fits_60 rfl rfl ?_
      exact Y_reti dX7_fits_61 (Or.inr ⟨rfl, by first | exact Or.inl rfl | exact Or.inr rfl | exact b2i_01 _ | assumption⟩) (by first | (rw [fitT_1 hs]; first | exact cl_t (by omega) | exact cl_f (by omega)) | (rw [fitT_2 hs]; first | exact cl_t (by omega) | exact cl_f (by omega)) | (rw [fitT_3 hs]; first | exact cl_t (by omega) | exact cl_f (by omega)) | (rw [fitT_4 hs]; first | rfl | (exfalso; omega)) | (rw [fitT_5 hs]; first | rfl | (exfalso; omega))) rfl
    · skip
      rw [nI_leI (by omega) (by omega)] at h53
      refine X_iconst (v := 1) (nx := 57) dX7_fits_56 rfl rfl ?_
      refine X_goto (tgt := 61) dX7_fits_57 rfl ?_
      exact Y_reti dX7_fits_61 (Or.inr ⟨rfl, by first | exact Or.inl rfl | exact Or.inr rfl | exact b2i_01 _ | assumption⟩) (by first | (rw [fitT_1 hs]; first | exact cl_t (by omega) | exact cl_f (by omega)) | (rw [fitT_2 hs]; first | exact cl_t (by omega) | exact cl_f (by omega)) | (rw [fitT_3 hs]; first | exact cl_t (by omega) | exact cl_f (by omega)) | (rw [fitT_4 hs]; first | rfl | (exfalso; omega)) | (rw [fitT_5 hs]; first | rfl | (exfalso; omega))) rfl
  · skip
    refine X_top (y := 20) (congrArg nI (show s / 10 * 10 = 20 by omega)) ?_
    refine X_lookup (tgt := 62) (off := 55) dX7_fits_7 (by decide) (by decide) rfl ?_
    refine X_iload_n (nx := 63) dX7_fits_62 rfl rfl rfl ?_
    refine X_iconst (v := nI 2) (nx := 64) dX7_fits_63 rfl rfl ?_
    refine X_icmp_lt (tgt := 71) (nx := 67) dX7_fits_64 rfl rfl (fun h64 => ?_) (fun h64 => ?_)
    · skip
      rw [nI_ltI (by omega) (by omega)] at h64
      refine X_iconst (v := 0) (nx := 72) dX7_fits_71 rfl rfl ?_
      exact Y_reti dX7_fits_72 (Or.inr ⟨rfl, by first | exact Or.inl rfl | exact Or.inr rfl | exact b2i_01 _ | assumption⟩) (by first | (rw [fitT_1 hs]; first | exact cl_t (by omega) | exact cl_f (by omega)) | (rw [fitT_2 hs]; first | exact cl_t (by omega) | exact cl_f (by omega)) | (rw [fitT_3 hs]; first | exact cl_t (by omega) | exact cl_f (by omega)) | (rw [fitT_4 hs]; first | rfl | (exfalso; omega)) | (rw [fitT_5 hs]; first | rfl | (exfalso; omega))) rfl
    · skip
      rw [nI_ltI (by omega) (by omega)] at h64
      refine X_iconst (v := 1) (nx := 68) dX7_fits_67 rfl rfl ?_
      refine X_goto (tgt := 72) dX7_fits_68 rfl ?_
      exact Y_reti dX7_fits_72 (Or.inr ⟨rfl, by first | exact Or.inl rfl | exact Or.inr rfl | exact b2i_01 _ | assumption⟩) (by first | (rw [fitT_1 hs]; first | exact cl_t (by omega) | exact cl_f (by omega)) | (rw [fitT_2 hs]; first | exact cl_t (by omega) | exact cl_f (by omega)) | (rw [fitT_3 hs]; first | exact cl_t (by omega) | exact cl_f (by omega)) | (rw [fitT_4 hs]; first | rfl | (exfalso; omega)) | (rw [fitT_5 hs]; first | rfl | (exfalso; omega))) rfl
  · skip
    refine X_top (y := 30) (congrArg nI (show s / 10 * 10 = 30 by omega)) ?_
    refine X_lookup (tgt := 73) (off := 66) dX7_fits_7 (by decide) (by decide) rfl ?_
    refine X_iload_n (nx := 74) dX7_fits_73 rfl rfl rfl ?_
    refine X_bipush (v := nI 40) (nx := 76) dX7_fits_74 rfl rfl ?_
    refine X_icmp_ge (tgt := 83) (nx := 79) dX7_fits_76 rfl rfl (fun h76 => ?_) (fun h76 => ?_)
    · skip
      rw [nI_leI (by omega) (by omega)] at h76
      refine X_iconst (v := 0) (nx := 84) dX7_fits_83 rfl rfl ?_
      exact Y_reti dX7_fits_84 (Or.inr ⟨rfl, by first | exact Or.inl rfl | exact Or.inr rfl | exact b2i_01 _ | assumption⟩) (by first | (rw [fitT_1 hs]; first | exact cl_t (by omega) | exact cl_f (by omega)) | (rw [fitT_2 hs]; first | exact cl_t (by omega) | exact cl_f (by omega)) | (rw [fitT_3 hs]; first | exact cl_t (by omega) | exact cl_f (by omega)) | (rw [fitT_4 hs]; first | rfl | (exfalso; omega)) | (rw [fitT_5 hs]; first | rfl | (exfalso; omega))) rfl
    · skip
      rw [nI_leI (by omega) (by omega)] at h76
      refine X_iconst (v := 1) (nx := 80) dX7_fits_79 rfl rfl ?_
      refine X_goto (tgt := 84) dX7_fits_80 rfl ?_
      exact Y_reti dX7_fits_84 (Or.inr ⟨rfl, by first | exact Or.inl rfl | exact Or.inr rfl | exact b2i_01 _ | assumption⟩) (by first | (rw [fitT_1 hs]; first | exact cl_t (by omega) | exact cl_f (by omega)) | (rw [fitT_2 hs]; first | exact cl_t (by omega) | exact cl_f (by omega)) | (rw [fitT_3 hs]; first | exact cl_t (by omega) | exact cl_f (by omega)) | (rw [fitT_4 hs]; first | rfl | (exfalso; omega)) | (rw [fitT_5 hs]; first | rfl | (exfalso; omega))) rfl
  · skip
    refine X_top (y := 40) (congrArg nI (show s / 10 * 10 = 40 by omega)) ?_
    refine X_lookup (tgt := 73) (off := 66) dX7_fits_7 (by decide) (by decide) rfl ?_
    refine X_iload_n (nx := 74) dX7_fits_73 rfl rfl rfl ?_
    refine X_bipush (v := nI 40) (nx := 76) dX7_fits_74 rfl rfl ?_
    refine X_icmp_ge (tgt := 83) (nx := 79) dX7_fits_76 rfl rfl (fun h76 => ?_) (fun h76 => ?_)
    · skip
      rw [nI_leI (by omega) (by omega)] at h76
      refine X_iconst (v := 0) (nx := 84) dX7_fits_83 rfl rfl ?_
      exact Y_reti dX7_fits_84 (Or.inr ⟨rfl, by first | exact Or.inl rfl | exact Or.inr rfl | exact b2i_01 _ | assumption⟩) (by first | (rw [fitT_1 hs]; first | exact cl_t (by omega) | exact cl_f (by omega)) | (rw [fitT_2 hs]; first | exact cl_t (by omega) | exact cl_f (by omega)) | (rw [fitT_3 hs]; first | exact cl_t (by omega) | exact cl_f (by omega)) | (rw [fitT_4 hs]; first | rfl | (exfalso; omega)) | (rw [fitT_5 hs]; first | rfl | (exfalso; omega))) rfl
    · skip
      rw [nI_leI (by omega) (by omega)] at h76
      refine X_iconst (v := 1) (nx := 80) dX7_fits_79 rfl rfl ?_
      refine X_goto (tgt := 84) dX7_fits_80 rfl ?_
      exact Y_reti dX7_fits_84 (Or.inr ⟨rfl, by first | exact Or.inl rfl | exact Or.inr rfl | exact b2i_01 _ | assumption⟩) (by first | (rw [fitT_1 hs]; first | exact cl_t (by omega) | exact cl_f (by omega)) | (rw [fitT_2 hs]; first | exact cl_t (by omega) | exact cl_f (by omega)) | (rw [fitT_3 hs]; first | exact cl_t (by omega) | exact cl_f (by omega)) | (rw [fitT_4 hs]; first | rfl | (exfalso; omega)) | (rw [fitT_5 hs]; first | rfl | (exfalso; omega))) rfl
