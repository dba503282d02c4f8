/-! THE TRIE AS IT IS GROWN FROM A BOOK -/
def nlG (B : Bk) : Nat → List Nd
  | 0 => roots
  | i + 1 => if thN B i = true then adP (nlG B i) (ro_ B i) (es_ B i) (es_ B i).length else nlG B i
def stg (F : Nd → Nat → Bool) (i : Nat) : Nd → Nat → Bool := fun q r => decide (r < i) && F q r
theorem Enc.frT2 {D D' : Mem} {B : Bk} (h : Enc D 1 B) (hf : Fr inT2 D D') : Enc D' 1 B := h.fr (fun x hx => hf x (by unfold inB at hx; unfold inT2; omega))
def TRI (D : Mem) (B : Bk) : Prop := TE D B (nlG B 10) (PSf B) (ENf B) (RSf B) (MNf B) (SVf B) (fun r => thN B r && mtB B r) ∧ (∀ i, i < 3 → D 89 i = nI (kd_ B i) ∧ D 90 i = nI (fg_ B i)) ∧ ∀ x, x < 3 → D 91 x = opI (wy B 2 x)
theorem nlG_len {B : Bk} (hV : VB B) : ∀ i, (nlG B i).length ≤ 3 + 4 * i := by
  intro i
  induction i with
  | zero => exact Nat.le_refl _
  | succ i ih =>
    unfold nlG
    split
    · next h =>
      have hc : i < cm_ B := by unfold thN at h; simp only [Bool.and_eq_true, decide_eq_true_eq] at h; exact h.1
      have h1 := (adP_len (nlG B i) (ro_ B i) (es_ B i) (es_ B i).length).1
      have h2 := es_len B i
      have h3 := pl_le (sg_ B i)
      have h4 := (hV.2.2 i hc).2.1.1
      omega
    · omega
theorem stg_s {F : Nd → Nat → Bool} {i : Nat} (q : Nd) (r : Nat) : stg F (i + 1) q r = adF (stg F i) F i q r := by
  unfold adF stg
  by_cases hr : r = i
  · subst hr
    rw [decide_eq_true (show r < r + 1 by omega), decide_eq_false (show ¬ r < r by omega), decide_eq_true rfl]; simp
  · rw [decide_eq_false hr, show decide (r < i + 1) = decide (r < i) from decide_eq_decide.mpr (by omega)]; simp
theorem stg_no {F : Nd → Nat → Bool} {i : Nat} (hF : ∀ q, F q i = false) (q : Nd) (r : Nat) : stg F (i + 1) q r = stg F i q r := by
  unfold stg
  by_cases hr : r = i
  · subst hr; rw [hF]; simp
  · rw [show decide (r < i + 1) = decide (r < i) from decide_eq_decide.mpr (by omega)]
def TEs (D : Mem) (B : Bk) (i : Nat) : Prop := TE D B (nlG B i) (stg (PSf B) i) (stg (ENf B) i) (stg (RSf B) i) (stg (MNf B) i) (fun v r => decide (r < i) && SVf B v r) (fun r => decide (r < i) && (thN B r && mtB B r))
theorem TEs_s {D : Mem} {B : Bk} {i : Nat} (ht : thN B i = true) (h : TEi D B (adP (nlG B i) (ro_ B i) (es_ B i) (es_ B i).length) (stg (PSf B) i) (stg (ENf B) i) (stg (RSf B) i) (stg (MNf B) i) (fun v r => decide (r < i) && SVf B v r) (fun r => decide (r < i) && (thN B r && mtB B r)) i) : TEs D B (i + 1) := by
  unfold TEs
  have e : nlG B (i + 1) = adP (nlG B i) (ro_ B i) (es_ B i) (es_ B i).length := if_pos ht
  rw [e]
  refine TE.congr h (fun q r _ => stg_s q r) (fun q r _ => stg_s q r) (fun q r _ => stg_s q r) (fun q r _ => stg_s q r) (fun v r _ => ?_) (fun r _ hr => ?_)
  · exact stg_s (F := fun q r => SVf B q.1 r) (i := i) (v, []) r
  · by_cases hri : r = i
    · subst hri
      simp only [Bool.and_eq_true] at hr
      rw [decide_eq_true rfl, hr.2.2]; simp
    · rw [show decide (r < i + 1) = decide (r < i) from decide_eq_decide.mpr (by omega)] at hr
      show ((decide (r < i) && (thN B r && mtB B r)) || _) = true
      rw [hr]; rfl
theorem TEs_no {D : Mem} {B : Bk} {i : Nat} (ht : thN B i = false) (h : TEs D B i) : TEs D B (i + 1) := by
  unfold TEs
  have e : nlG B (i + 1) = nlG B i := if_neg (by rw [ht]; decide)
  rw [e]
  refine TE.congr h (fun q r _ => stg_no (fun q => by unfold PSf; rw [ht]; rfl) q r) (fun q r _ => stg_no (fun q => by unfold ENf AT_; rw [ht]; rfl) q r) (fun q r _ => stg_no (fun q => by unfold RSf AT_; rw [ht]; rfl) q r) (fun q r _ => stg_no (fun q => by unfold MNf AT_; rw [ht]; rfl) q r) (fun v r _ => ?_) (fun r _ hr => ?_)
  · exact stg_no (F := fun q r => SVf B q.1 r) (i := i) (fun q => by unfold SVf; rw [ht]; rfl) (v, []) r
  · by_cases hri : r = i
    · subst hri; rw [ht] at hr; simp at hr
    · rw [show decide (r < i + 1) = decide (r < i) from decide_eq_decide.mpr (by omega)] at hr
      exact hr
theorem TEs_0 {D : Mem} {B : Bk} (h : TE D B roots ff2 ff2 ff2 ff2 (fun _ _ => false) (fun _ => false)) : TEs D B 0 :=
  TE.congr h (fun _ _ _ => rfl) (fun _ _ _ => rfl) (fun _ _ _ => rfl) (fun _ _ _ => rfl) (fun _ _ _ => rfl) (fun _ _ q => by simp at q)
theorem TEs_10 {D : Mem} {B : Bk} (h : TEs D B 10) : TE D B (nlG B 10) (PSf B) (ENf B) (RSf B) (MNf B) (SVf B) (fun r => thN B r && mtB B r) := by
  have z : ∀ r, r < 10 → decide (r < 10) = true := fun r hr => decide_eq_true hr
  exact TE.congr h (fun q r hr => by unfold stg; rw [z r hr]; rfl) (fun q r hr => by unfold stg; rw [z r hr]; rfl) (fun q r hr => by unfold stg; rw [z r hr]; rfl) (fun q r hr => by unfold stg; rw [z r hr]; rfl) (fun v r hr => by rw [z r hr]; rfl) (fun r hr q => by rw [z r hr]; simpa using q)
/-- TE only looks at these cells -/
theorem TE.fr {D D' : Mem} {B : Bk} {nl : List Nd} {PS EN RS MN : Nd → Nat → Bool} {SV : Nat → Nat → Bool} {MO : Nat → Bool} (h : TE D B nl PS EN RS MN SV MO) (hf : ∀ b, 81 ≤ b → b ≤ 88 → D' b = D b) (h80 : D' 80 11 = D 80 11) : TE D' B nl PS EN RS MN SV MO := by
  obtain ⟨h1, h2, h3, h4, h5, h6⟩ := h
  refine ⟨h80.trans h1, h2, fun j hj => ?_, fun v hv => by rw [hf 88 (by omega) (by omega)]; exact h4 v hv, fun r hr hm => by rw [hf 87 (by omega) (by omega)]; exact h5 r hr hm, h6⟩
  obtain ⟨g1, g2, g3, g4, g5, g6⟩ := h3 j hj
  exact ⟨by rw [hf 82 (by omega) (by omega)]; exact g1, by rw [hf 83 (by omega) (by omega)]; exact g2, by rw [hf 84 (by omega) (by omega)]; exact g3, by rw [hf 85 (by omega) (by omega)]; exact g4, by rw [hf 86 (by omega) (by omega)]; exact g5, fun e he => by rw [hf 81 (by omega) (by omega)]; exact g6 e he⟩
/-- the trie's cells but kinds and figures do not change, these hold what they did -/
theorem TRI.fr {D D' : Mem} {B : Bk} (h : TRI D B) (hf : ∀ b, 80 ≤ b → b ≤ 91 → D' b = D b) : TRI D' B := by
  obtain ⟨h1, h2, h3⟩ := h
  exact ⟨h1.fr (fun b g1 g2 => hf b (by omega) (by omega)) (by rw [hf 80 (by omega) (by omega)]), fun i hi => ⟨by rw [hf 89 (by omega) (by omega)]; exact (h2 i hi).1, by rw [hf 90 (by omega) (by omega)]; exact (h2 i hi).2⟩, fun x hx => by rw [hf 91 (by omega) (by omega)]; exact h3 x hx⟩
theorem dX5_grow_0 : decode cX5_grow 0 = .ok (.aload_n 0, 1) := by decide +kernel
theorem dX5_grow_1 : decode cX5_grow 1 = .ok (.invokevirtual 45, 3) := by decide +kernel
theorem dX5_grow_4 : decode cX5_grow 4 = .ok (.iconst 0, 1) := by decide +kernel
theorem dX5_grow_5 : decode cX5_grow 5 = .ok (.istore_n 2, 1) := by decide +kernel
theorem dX5_grow_6 : decode cX5_grow 6 = .ok (.iload_n 2, 1) := by decide +kernel
theorem dX5_grow_7 : decode cX5_grow 7 = .ok (.iconst 3, 1) := by decide +kernel
theorem dX5_grow_8 : decode cX5_grow 8 = .ok (.if_icmp .ge 41, 3) := by decide +kernel
theorem dX5_grow_11 : decode cX5_grow 11 = .ok (.aload_n 0, 1) := by decide +kernel
theorem dX5_grow_12 : decode cX5_grow 12 = .ok (.getfield 36, 3) := by decide +kernel
theorem dX5_grow_15 : decode cX5_grow 15 = .ok (.iload_n 2, 1) := by decide +kernel
theorem dX5_grow_16 : decode cX5_grow 16 = .ok (.aload_n 1, 1) := by decide +kernel
theorem dX5_grow_17 : decode cX5_grow 17 = .ok (.getfield 60, 3) := by decide +kernel
theorem dX5_grow_20 : decode cX5_grow 20 = .ok (.iload_n 2, 1) := by decide +kernel
theorem dX5_grow_21 : decode cX5_grow 21 = .ok (.invokestatic 63, 3) := by decide +kernel
theorem dX5_grow_24 : decode cX5_grow 24 = .ok (.invokestatic 56, 3) := by decide +kernel
theorem dX5_grow_27 : decode cX5_grow 27 = .ok (.aload_n 0, 1) := by decide +kernel
theorem dX5_grow_28 : decode cX5_grow 28 = .ok (.getfield 39, 3) := by decide +kernel
theorem dX5_grow_31 : decode cX5_grow 31 = .ok (.iload_n 2, 1) := by decide +kernel
theorem dX5_grow_32 : decode cX5_grow 32 = .ok (.aload_n 1, 1) := by decide +kernel
theorem dX5_grow_33 : decode cX5_grow 33 = .ok (.getfield 67, 3) := by decide +kernel
theorem dX5_grow_36 : decode cX5_grow 36 = .ok (.iload_n 2, 1) := by decide +kernel
theorem dX5_grow_37 : decode cX5_grow 37 = .ok (.invokestatic 63, 3) := by decide +kernel
theorem dX5_grow_40 : decode cX5_grow 40 = .ok (.invokestatic 56, 3) := by decide +kernel
theorem dX5_grow_43 : decode cX5_grow 43 = .ok (.iinc 2 1, 3) := by decide +kernel
theorem dX5_grow_46 : decode cX5_grow 46 = .ok (.goto (-40), 3) := by decide +kernel
theorem dX5_grow_49 : decode cX5_grow 49 = .ok (.iconst 0, 1) := by decide +kernel
theorem dX5_grow_50 : decode cX5_grow 50 = .ok (.istore_n 2, 1) := by decide +kernel
theorem dX5_grow_51 : decode cX5_grow 51 = .ok (.iload_n 2, 1) := by decide +kernel
theorem dX5_grow_52 : decode cX5_grow 52 = .ok (.bipush 10, 2) := by decide +kernel
theorem dX5_grow_54 : decode cX5_grow 54 = .ok (.if_icmp .ge 27, 3) := by decide +kernel
theorem dX5_grow_57 : decode cX5_grow 57 = .ok (.aload_n 1, 1) := by decide +kernel
theorem dX5_grow_58 : decode cX5_grow 58 = .ok (.iload_n 2, 1) := by decide +kernel
theorem dX5_grow_59 : decode cX5_grow 59 = .ok (.invokevirtual 68, 3) := by decide +kernel
theorem dX5_grow_62 : decode cX5_grow 62 = .ok (.ifCond .eq 13, 3) := by decide +kernel
theorem dX5_grow_65 : decode cX5_grow 65 = .ok (.aload_n 0, 1) := by decide +kernel
theorem dX5_grow_66 : decode cX5_grow 66 = .ok (.iload_n 2, 1) := by decide +kernel
theorem dX5_grow_67 : decode cX5_grow 67 = .ok (.aload_n 1, 1) := by decide +kernel
theorem dX5_grow_68 : decode cX5_grow 68 = .ok (.iload_n 2, 1) := by decide +kernel
theorem dX5_grow_69 : decode cX5_grow 69 = .ok (.invokevirtual 72, 3) := by decide +kernel
theorem dX5_grow_72 : decode cX5_grow 72 = .ok (.invokevirtual 76, 3) := by decide +kernel
theorem dX5_grow_75 : decode cX5_grow 75 = .ok (.iinc 2 1, 3) := by decide +kernel
theorem dX5_grow_78 : decode cX5_grow 78 = .ok (.goto (-27), 3) := by decide +kernel
theorem dX5_grow_81 : decode cX5_grow 81 = .ok (.aload_n 0, 1) := by decide +kernel
theorem dX5_grow_82 : decode cX5_grow 82 = .ok (.aload_n 1, 1) := by decide +kernel
theorem dX5_grow_83 : decode cX5_grow 83 = .ok (.invokevirtual 80, 3) := by decide +kernel
theorem dX5_grow_86 : decode cX5_grow 86 = .ok (.return_, 1) := by decide +kernel
theorem lp_grow2 {B : Bk} {D : Mem} (hE : Enc D 1 B) (hV : VB B) : ∀ (m : Nat) (i : Nat) (D1 : Mem), i + m = 10 → Fr inT2 D D1 → TEs D1 B i → (∀ x, x < 3 → D1 89 x = nI (kd_ B x) ∧ D1 90 x = nI (fg_ B x)) → (∀ x, x < 3 → D1 91 x = -9) → X 4 138 j_X5_grow 51 [some (.ref 80), some (.ref 1), some (.int (nI i))] [] (138, P0, D1) (fun x σ => ∃ D' : Mem, x = [] ∧ σ = wd D' ∧ TRI D' B ∧ Fr inT2 D D') := by
  intro m
  induction m with
  | zero =>
    intro i D1 hi hf hT hK hW
    have hly : (lay 82).2 = 43 ∧ (lay 83).2 = 43 ∧ (lay 84).2 = 43 ∧ (lay 85).2 = 43 ∧ (lay 86).2 = 43 ∧ (lay 81).2 = 301 ∧ (lay 87).2 = 10 ∧ (lay 88).2 = 4 ∧ (lay 89).2 = 3 ∧ (lay 90).2 = 3 ∧ (lay 91).2 = 3 := by decide
    obtain ⟨⟨b1, b2⟩, ⟨b3, b4, b5, b6⟩, ⟨b7, b8, b9⟩, ⟨c1, c2, c3⟩, ⟨c4, c5, c6⟩, c7, c8⟩ := isB.facts (b := 1) (Or.inl rfl)
    have h3 := hE.2.2.1
    have hE1 := hE.frT2 hf
    refine X_iload_n (nx := 52) dX5_grow_51 rfl rfl rfl ?_
    refine X_bipush (v := nI 10) (nx := 54) dX5_grow_52 rfl rfl ?_
    refine X_icmp_ge (tgt := 81) (nx := 57) dX5_grow_54 rfl rfl (fun h54 => ?_) (fun h54 => ?_)
    · skip
      refine X_aload_n (nx := 82) dX5_grow_81 rfl rfl rfl ?_
      refine X_aload_n (nx := 83) dX5_grow_82 rfl rfl rfl ?_
      refine Z_Vv1 (nx := 86) dX5_grow_83 rfl ml_RX5_80 kj_X5_findWays kv_X5_findWays (sp_X5_findWays hE1 hV hW) (by first | assumption | rfl | decide | omega) (by first | assumption | rfl | decide | omega) (by decide) rfl (by first | decide | omega) (by exact Nat.le_of_ble_eq_true rfl) (fun D83 g83 => ?_)
      exact Z_retv dX5_grow_86 rfl ⟨⟨(TEs_10 (by rw [show i = 10 by omega] at hT; exact hT)).fr (fun b g1 g2 => g83.2 b (by omega)) (by rw [g83.2 80 (by omega)]), fun x hx => ⟨by rw [g83.2 89 (by omega)]; exact (hK x hx).1, by rw [g83.2 90 (by omega)]; exact (hK x hx).2⟩, g83.1⟩, hf.tr (g83.2.mono fun b hb => by unfold inT2; omega)⟩
    · exact absurd h54 (fun q => q (nI_le (by omega) (by omega)))
  | succ m ih =>
    intro i D1 hi hf hT hK hW
    have hly : (lay 82).2 = 43 ∧ (lay 83).2 = 43 ∧ (lay 84).2 = 43 ∧ (lay 85).2 = 43 ∧ (lay 86).2 = 43 ∧ (lay 81).2 = 301 ∧ (lay 87).2 = 10 ∧ (lay 88).2 = 4 ∧ (lay 89).2 = 3 ∧ (lay 90).2 = 3 ∧ (lay 91).2 = 3 := by decide
    obtain ⟨⟨b1, b2⟩, ⟨b3, b4, b5, b6⟩, ⟨b7, b8, b9⟩, ⟨c1, c2, c3⟩, ⟨c4, c5, c6⟩, c7, c8⟩ := isB.facts (b := 1) (Or.inl rfl)
    have h3 := hE.2.2.1
    have hE1 := hE.frT2 hf
    refine X_iload_n (nx := 52) dX5_grow_51 rfl rfl rfl ?_
    refine X_bipush (v := nI 10) (nx := 54) dX5_grow_52 rfl rfl ?_
    refine X_icmp_ge (tgt := 81) (nx := 57) dX5_grow_54 rfl rfl (fun h54 => ?_) (fun h54 => ?_)
    · exact absurd h54 (nI_ge (by omega) (by omega))
    · skip
      refine X_aload_n (nx := 58) dX5_grow_57 rfl rfl rfl ?_
      refine X_iload_n (nx := 59) dX5_grow_58 rfl rfl rfl ?_
      refine Y_Vi1 (nx := 62) dX5_grow_59 rfl ml_RX5_68 kj_X0_isThere kv_X0_isThere (sp_X0_isThere (b := 1) (Or.inl rfl) hE1) (by first | assumption | rfl | decide | omega) (by first | assumption | rfl | decide | omega) (by decide) rfl (by first | decide | omega) (by exact Nat.le_of_ble_eq_true rfl) ?_
      refine X_if_eq (tgt := 75) (nx := 65) dX5_grow_62 rfl rfl (fun h62 => ?_) (fun h62 => ?_)
      · skip
        rw [isTh_n h3 (by omega), b2i_f] at h62
        refine X_iinc (nx := 78) dX5_grow_75 rfl (by decide) rfl (by first | exact ii1 _ | rfl) rfl (st_s (st_s (st_0))) ?_
        refine X_goto (tgt := 51) dX5_grow_78 rfl ?_
        first
          | exact ih (i + 1) _ (by omega) hf (TEs_no h62 hT) hK hW
          | exact ih (i + 1) _ (by omega) (hf.tr (g72.2.mono fun b hb => by unfold inT at hb; unfold inT2; omega)) (TEs_s h62 g72.1) (fun x hx => ⟨by rw [g72.2 89 (by unfold inT; omega)]; exact (hK x hx).1, by rw [g72.2 90 (by unfold inT; omega)]; exact (hK x hx).2⟩) (fun x hx => by rw [g72.2 91 (by unfold inT; omega)]; exact hW x hx)
      · skip
        rw [isTh_n h3 (by omega), b2i_t] at h62
        have hic : i < cm_ B := by unfold thN at h62; simp only [Bool.and_eq_true, decide_eq_true_eq] at h62; exact h62.1
        have hll : (nlG B i).length + (es_ B i).length ≤ 43 := by have h1 := nlG_len hV i; have h2 := es_len B i; have h3 := pl_le (sg_ B i); have h4 := (hV.2.2 i hic).2.1.1; omega
        refine X_aload_n (nx := 66) dX5_grow_65 rfl rfl rfl ?_
        refine X_iload_n (nx := 67) dX5_grow_66 rfl rfl rfl ?_
        refine X_aload_n (nx := 68) dX5_grow_67 rfl rfl rfl ?_
        refine X_iload_n (nx := 69) dX5_grow_68 rfl rfl rfl ?_
        refine Y_Vr1 (nx := 72) dX5_grow_69 rfl ml_RX5_72 kj_X0_at kv_X0_at (sp_X0_at (b := 1) (Or.inl rfl) (i := i) rfl (by omega)) (by first | assumption | rfl | decide | omega) (by first | assumption | rfl | decide | omega) (by decide) rfl (by first | decide | omega) (by exact Nat.le_of_ble_eq_true rfl) ?_
        refine Z_Vv2 (nx := 75) dX5_grow_72 rfl ml_RX5_76 kj_X5_plant kv_X5_plant (sp_X5_plant hE1 hic h62 (hV.2.2 i hic) hll hT rfl rfl) (by first | assumption | rfl | decide | omega) (by first | assumption | rfl | decide | omega) (by decide) rfl (by first | decide | omega) (by exact Nat.le_of_ble_eq_true rfl) (fun D72 g72 => ?_)
        refine X_iinc (nx := 78) dX5_grow_75 rfl (by decide) rfl (by first | exact ii1 _ | rfl) rfl (st_s (st_s (st_0))) ?_
        refine X_goto (tgt := 51) dX5_grow_78 rfl ?_
        first
          | exact ih (i + 1) _ (by omega) hf (TEs_no h62 hT) hK hW
          | exact ih (i + 1) _ (by omega) (hf.tr (g72.2.mono fun b hb => by unfold inT at hb; unfold inT2; omega)) (TEs_s h62 g72.1) (fun x hx => ⟨by rw [g72.2 89 (by unfold inT; omega)]; exact (hK x hx).1, by rw [g72.2 90 (by unfold inT; omega)]; exact (hK x hx).2⟩) (fun x hx => by rw [g72.2 91 (by unfold inT; omega)]; exact hW x hx)
theorem lp_grow1 {B : Bk} {D : Mem} (hE : Enc D 1 B) (hV : VB B) : ∀ (m : Nat) (i : Nat) (D1 : Mem), i + m = 3 → Fr inT2 D D1 → TEs D1 B 0 → (∀ x, x < i → D1 89 x = nI (kd_ B x) ∧ D1 90 x = nI (fg_ B x)) → (∀ x, x < 3 → D1 91 x = -9) → X 4 138 j_X5_grow 6 [some (.ref 80), some (.ref 1), some (.int (nI i))] [] (138, P0, D1) (fun x σ => ∃ D' : Mem, x = [] ∧ σ = wd D' ∧ TRI D' B ∧ Fr inT2 D D') := by
  intro m
  induction m with
  | zero =>
    intro i D1 hi hf hT hK hW
    have hly : (lay 82).2 = 43 ∧ (lay 83).2 = 43 ∧ (lay 84).2 = 43 ∧ (lay 85).2 = 43 ∧ (lay 86).2 = 43 ∧ (lay 81).2 = 301 ∧ (lay 87).2 = 10 ∧ (lay 88).2 = 4 ∧ (lay 89).2 = 3 ∧ (lay 90).2 = 3 ∧ (lay 91).2 = 3 := by decide
    obtain ⟨⟨b1, b2⟩, ⟨b3, b4, b5, b6⟩, ⟨b7, b8, b9⟩, ⟨c1, c2, c3⟩, ⟨c4, c5, c6⟩, c7, c8⟩ := isB.facts (b := 1) (Or.inl rfl)
    have hE1 := hE.frT2 hf
    refine X_iload_n (nx := 7) dX5_grow_6 rfl rfl rfl ?_
    refine X_iconst (v := nI 3) (nx := 8) dX5_grow_7 rfl rfl ?_
    refine X_icmp_ge (tgt := 49) (nx := 11) dX5_grow_8 rfl rfl (fun h8 => ?_) (fun h8 => ?_)
    · skip
      refine X_iconst (v := 0) (nx := 50) dX5_grow_49 rfl rfl ?_
      refine X_istore_n (i := 2) (nx := 51) dX5_grow_50 rfl rfl (by decide) rfl (st_s (st_s (st_0))) ?_
      exact lp_grow2 hE hV 10 0 D1 rfl hf hT (fun x hx => hK x (by omega)) hW
    · exact absurd h8 (fun q => q (nI_le (by omega) (by omega)))
  | succ m ih =>
    intro i D1 hi hf hT hK hW
    have hly : (lay 82).2 = 43 ∧ (lay 83).2 = 43 ∧ (lay 84).2 = 43 ∧ (lay 85).2 = 43 ∧ (lay 86).2 = 43 ∧ (lay 81).2 = 301 ∧ (lay 87).2 = 10 ∧ (lay 88).2 = 4 ∧ (lay 89).2 = 3 ∧ (lay 90).2 = 3 ∧ (lay 91).2 = 3 := by decide
    obtain ⟨⟨b1, b2⟩, ⟨b3, b4, b5, b6⟩, ⟨b7, b8, b9⟩, ⟨c1, c2, c3⟩, ⟨c4, c5, c6⟩, c7, c8⟩ := isB.facts (b := 1) (Or.inl rfl)
    have hE1 := hE.frT2 hf
    refine X_iload_n (nx := 7) dX5_grow_6 rfl rfl rfl ?_
    refine X_iconst (v := nI 3) (nx := 8) dX5_grow_7 rfl rfl ?_
    refine X_icmp_ge (tgt := 49) (nx := 11) dX5_grow_8 rfl rfl (fun h8 => ?_) (fun h8 => ?_)
    · exact absurd h8 (nI_ge (by omega) (by omega))
    · skip
      refine X_aload_n (nx := 12) dX5_grow_11 rfl rfl rfl ?_
      refine M_getP (nx := 15) dX5_grow_12 rfl fl_RX5_36 rfl (by first | assumption | rfl | decide | omega) (by first | assumption | rfl | decide | omega) (by first | assumption | rfl | decide | omega) ?_
      refine X_iload_n (nx := 16) dX5_grow_15 rfl rfl rfl ?_
      refine X_aload_n (nx := 17) dX5_grow_16 rfl rfl rfl ?_
      refine M_getP (nx := 20) dX5_grow_17 rfl fl_RX5_60 rfl (by first | assumption | rfl | decide | omega) (by first | assumption | rfl | decide | omega) (by first | assumption | rfl | decide | omega) ?_
      refine X_iload_n (nx := 21) dX5_grow_20 rfl rfl rfl ?_
      refine Y_Si2 (nx := 24) dX5_grow_21 rfl ml_RX5_63 kj_X7_numberAt ks_X7_numberAt (sp_X7_numberAt (i := i) (by decide) (by decide) rfl (by omega)) (by first | decide | omega) (by exact Nat.le_of_ble_eq_true rfl) ?_
      refine X_top ((hE1.1 i (by omega)).1) ?_
      refine Y_Sv3 (nx := 27) dX5_grow_24 rfl ml_RX5_56 kj_X7_put ks_X7_put (sp_X7_put (i := i) (by decide) (by decide) rfl (by omega)) (by first | decide | omega) (by exact Nat.le_of_ble_eq_true rfl) ?_
      refine X_aload_n (nx := 28) dX5_grow_27 rfl rfl rfl ?_
      refine M_getP (nx := 31) dX5_grow_28 rfl fl_RX5_39 rfl (by first | assumption | rfl | decide | omega) (by first | assumption | rfl | decide | omega) (by first | assumption | rfl | decide | omega) ?_
      refine X_iload_n (nx := 32) dX5_grow_31 rfl rfl rfl ?_
      refine X_aload_n (nx := 33) dX5_grow_32 rfl rfl rfl ?_
      refine M_getP (nx := 36) dX5_grow_33 rfl fl_RX5_67 rfl (by first | assumption | rfl | decide | omega) (by first | assumption | rfl | decide | omega) (by first | assumption | rfl | decide | omega) ?_
      refine X_iload_n (nx := 37) dX5_grow_36 rfl rfl rfl ?_
      refine Y_Si2 (nx := 40) dX5_grow_37 rfl ml_RX5_63 kj_X7_numberAt ks_X7_numberAt (sp_X7_numberAt (i := i) (by decide) (by decide) rfl (by omega)) (by first | decide | omega) (by exact Nat.le_of_ble_eq_true rfl) ?_
      refine X_top ((congrFun (up2_ne (by omega)) _).trans (hE1.1 i (by omega)).2) ?_
      refine Y_Sv3 (nx := 43) dX5_grow_40 rfl ml_RX5_56 kj_X7_put ks_X7_put (sp_X7_put (i := i) (by decide) (by decide) rfl (by omega)) (by first | decide | omega) (by exact Nat.le_of_ble_eq_true rfl) ?_
      refine X_iinc (nx := 46) dX5_grow_43 rfl (by decide) rfl (by first | exact ii1 _ | rfl) rfl (st_s (st_s (st_0))) ?_
      refine X_goto (tgt := 6) dX5_grow_46 rfl ?_
      have hup : ∀ b, b ≠ 89 → b ≠ 90 → up2 (up2 D1 89 i (nI (kd_ B i))) 90 i (nI (fg_ B i)) b = D1 b := fun b h1 h2 => (up2_ne h2).trans (up2_ne h1)
      refine ih (i + 1) _ (by omega) ((hf.tr (Fr.up (by unfold inT2; omega))).tr (Fr.up (by unfold inT2; omega))) (TE.fr hT (fun b g1 g2 => hup b (by omega) (by omega)) (by rw [hup 80 (by omega) (by omega)])) (fun x hx => ?_) (fun x hx => by rw [hup 91 (by omega) (by omega)]; exact hW x hx)
      by_cases e : x = i
      · subst e
        exact ⟨by rw [up2_other (by omega)]; exact up2_same, up2_same⟩
      · exact ⟨by rw [up2_other (by omega), up2_other (by omega)]; exact (hK x (by omega)).1, by rw [up2_other (by omega), up2_other (by omega)]; exact (hK x (by omega)).2⟩
theorem sp_X5_grow {B : Bk} {D : Mem} (hE : Enc D 1 B) (hV : VB B) : Rvx 4 j_X5_grow [.ref 80, .ref 1] D (fun D' => TRI D' B ∧ Fr inT2 D D') := by
  obtain ⟨⟨b1, b2⟩, ⟨b3, b4, b5, b6⟩, ⟨b7, b8, b9⟩, ⟨c1, c2, c3⟩, ⟨c4, c5, c6⟩, c7, c8⟩ := isB.facts (b := 1) (Or.inl rfl)
  refine E.start 1 (ls := [some (.ref 80), some (.ref 1), none]) (by decide +kernel) (Nat.le_of_ble_eq_true rfl) rfl (Nat.le_refl _) (Nat.le_refl _) ?_
  refine X_aload_n (nx := 1) dX5_grow_0 rfl rfl rfl ?_
  refine Z_Vv0 (nx := 4) dX5_grow_1 rfl ml_RX5_45 kj_X5_empty kv_X5_empty (sp_X5_empty (B := B)) (by first | assumption | rfl | decide | omega) (by first | assumption | rfl | decide | omega) (by decide) rfl (by first | decide | omega) (by exact Nat.le_of_ble_eq_true rfl) (fun D1 g1 => ?_)
  refine X_iconst (v := 0) (nx := 5) dX5_grow_4 rfl rfl ?_
  refine X_istore_n (i := 2) (nx := 6) dX5_grow_5 rfl rfl (by decide) rfl (st_s (st_s (st_0))) ?_
  exact lp_grow1 hE hV 3 0 D1 rfl g1.2.2 (TEs_0 g1.1) (fun x hx => by omega) g1.2.1
