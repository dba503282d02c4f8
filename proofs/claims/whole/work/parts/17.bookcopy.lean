theorem isB_far {b o : Nat} (hb : isB b) (ho : isB o) (hne : o ≠ b) : o + 26 ≤ b ∨ b + 26 ≤ o := by
  rcases hb with rfl | rfl | rfl <;> rcases ho with rfl | rfl | rfl <;> omega
/-- what the loops of a book's copy have reached -/
def CB1 (D D1 : Mem) (b o i : Nat) : Prop := (∀ k, k < i → D1 (b + 1) k = D (o + 1) k ∧ D1 (b + 2) k = D (o + 2) k) ∧ Fr (inB b) D D1
def CB2 (D D1 : Mem) (b o i : Nat) : Prop := CB1 D D1 b o 3 ∧ ∀ k, k < i → (∀ x, x < 4 → D1 (rt b k + 1) x = D (rt o k + 1) x) ∧ ∀ x, 1 ≤ x → x ≤ 6 → D1 (rt b k) x = D (rt o k) x
theorem CB1.step {D D1 : Mem} {b o i : Nat} (hf : o + 26 ≤ b ∨ b + 26 ≤ o) (hi : i < 3) (h : CB1 D D1 b o i) : CB1 D (up2 (up2 D1 (b + 1) i (D1 (o + 1) i)) (b + 2) i (up2 D1 (b + 1) i (D1 (o + 1) i) (o + 2) i)) b o (i + 1) := by
  obtain ⟨h1, h2⟩ := h
  have e1 : D1 (o + 1) = D (o + 1) := h2 _ (by unfold inB; omega)
  have e2 : D1 (o + 2) = D (o + 2) := h2 _ (by unfold inB; omega)
  refine ⟨fun k hk => ?_, (h2.tr (Fr.up ⟨by omega, by omega⟩)).tr (Fr.up ⟨by omega, by omega⟩)⟩
  by_cases hk2 : k = i
  · subst hk2
    refine ⟨?_, ?_⟩
    · rw [up2_other (by omega), up2_same, e1]
    · rw [up2_same, up2_other (by omega), e2]
  · refine ⟨?_, ?_⟩
    · rw [up2_other (by omega), up2_other (by omega)]; exact (h1 k (by omega)).1
    · rw [up2_other (by omega), up2_other (by omega)]; exact (h1 k (by omega)).2
theorem CB2.step {D D1 D2 : Mem} {b o i : Nat} (hf : o + 26 ≤ b ∨ b + 26 ≤ o) (hi : i < 10) (h : CB2 D D1 b o i) (hc : CPR D1 D2 (rt b i) (rt o i)) : CB2 D D2 b o (i + 1) := by
  obtain ⟨⟨h1, h2⟩, h3⟩ := h
  obtain ⟨c1, c2, c3⟩ := hc
  have fo : ∀ x, o ≤ x → x < o + 26 → D1 x = D x := fun x hx hx2 => h2 x (by unfold inB; omega)
  have fk : ∀ x, ¬ (x = rt b i ∨ x = rt b i + 1) → D2 x = D1 x := c3
  have hrt : rt b i = b + 6 + 2 * i ∧ rt o i = o + 6 + 2 * i := ⟨rfl, rfl⟩
  refine ⟨⟨fun k hk => ⟨?_, ?_⟩, h2.tr (c3.mono fun x hx => by unfold inB; omega)⟩, fun k hk => ?_⟩
  · rw [fk _ (by omega)]; exact (h1 k hk).1
  · rw [fk _ (by omega)]; exact (h1 k hk).2
  · have hrk : rt b k = b + 6 + 2 * k ∧ rt o k = o + 6 + 2 * k := ⟨rfl, rfl⟩
    by_cases hk2 : k = i
    · subst hk2
      refine ⟨fun x hx => ?_, fun x hx hx2 => ?_⟩
      · rw [c1 x hx, fo _ (by omega) (by omega)]
      · rw [c2 x hx hx2, fo _ (by omega) (by omega)]
    · refine ⟨fun x hx => ?_, fun x hx hx2 => ?_⟩
      · rw [fk _ (by omega)]; exact (h3 k (by omega)).1 x hx
      · rw [fk _ (by omega)]; exact (h3 k (by omega)).2 x hx hx2
theorem CB2.enc {D D1 : Mem} {b o : Nat} {B : Bk} (hf : o + 26 ≤ b ∨ b + 26 ≤ o) (h : CB2 D D1 b o 10) (he : Enc D o B) (hz : ZB D o) : Enc (up2 D1 b 4 (D1 o 4)) b B ∧ ZB (up2 D1 b 4 (D1 o 4)) b ∧ Fr (inB b) D (up2 D1 b 4 (D1 o 4)) := by
  obtain ⟨⟨h1, h2⟩, h3⟩ := h
  obtain ⟨g1, g2, g3, g4⟩ := he
  have nb : ∀ x, x ≠ b → up2 D1 b 4 (D1 o 4) x = D1 x := fun x hx => up2_ne hx
  refine ⟨⟨fun i hi => ⟨?_, ?_⟩, ?_, g3, fun i hi => ?_⟩, fun i hi => ?_, h2.tr (Fr.up ⟨by omega, by omega⟩)⟩
  · rw [nb _ (by omega), (h1 i hi).1]; exact (g1 i hi).1
  · rw [nb _ (by omega), (h1 i hi).2]; exact (g1 i hi).2
  · rw [up2_same, h2 o (by unfold inB; omega)]; exact g2
  · have hrk : rt b i = b + 6 + 2 * i := rfl
    obtain ⟨a, b', c, d, e1, e2, e3, e4, e5⟩ := g4 i hi
    obtain ⟨c1, c2⟩ := h3 i (by omega)
    have n1 := nb (rt b i) (by omega)
    have n2 := nb (rt b i + 1) (by omega)
    exact ⟨by rw [n1, c2 6 (by omega) (by omega)]; exact a, by rw [n1, c2 3 (by omega) (by omega)]; exact b', by rw [n1, c2 4 (by omega) (by omega)]; exact c, by rw [n1, c2 5 (by omega) (by omega)]; exact d, e1, by rw [n1, c2 1 (by omega) (by omega)]; exact e2, by rw [n1, c2 2 (by omega) (by omega)]; exact e3, fun k hk => by rw [n2, c1 k (by omega)]; exact e4 k hk, e5⟩
  · have hrk : rt b i = b + 6 + 2 * i := rfl
    rw [nb (rt b i) (by omega), (h3 i hi).2 6 (by omega) (by omega)]
    exact hz i hi
theorem dX0_copyFrom_0 : decode cX0_copyFrom 0 = .ok (.iconst 0, 1) := by decide +kernel
theorem dX0_copyFrom_1 : decode cX0_copyFrom 1 = .ok (.istore_n 2, 1) := by decide +kernel
theorem dX0_copyFrom_2 : decode cX0_copyFrom 2 = .ok (.iload_n 2, 1) := by decide +kernel
theorem dX0_copyFrom_3 : decode cX0_copyFrom 3 = .ok (.iconst 3, 1) := by decide +kernel
theorem dX0_copyFrom_4 : decode cX0_copyFrom 4 = .ok (.if_icmp .ge 41, 3) := by decide +kernel
theorem dX0_copyFrom_7 : decode cX0_copyFrom 7 = .ok (.aload_n 0, 1) := by decide +kernel
theorem dX0_copyFrom_8 : decode cX0_copyFrom 8 = .ok (.getfield 9, 3) := by decide +kernel
theorem dX0_copyFrom_11 : decode cX0_copyFrom 11 = .ok (.iload_n 2, 1) := by decide +kernel
theorem dX0_copyFrom_12 : decode cX0_copyFrom 12 = .ok (.aload_n 1, 1) := by decide +kernel
theorem dX0_copyFrom_13 : decode cX0_copyFrom 13 = .ok (.getfield 9, 3) := by decide +kernel
theorem dX0_copyFrom_16 : decode cX0_copyFrom 16 = .ok (.iload_n 2, 1) := by decide +kernel
theorem dX0_copyFrom_17 : decode cX0_copyFrom 17 = .ok (.invokestatic 29, 3) := by decide +kernel
theorem dX0_copyFrom_20 : decode cX0_copyFrom 20 = .ok (.invokestatic 33, 3) := by decide +kernel
theorem dX0_copyFrom_23 : decode cX0_copyFrom 23 = .ok (.aload_n 0, 1) := by decide +kernel
theorem dX0_copyFrom_24 : decode cX0_copyFrom 24 = .ok (.getfield 15, 3) := by decide +kernel
theorem dX0_copyFrom_27 : decode cX0_copyFrom 27 = .ok (.iload_n 2, 1) := by decide +kernel
theorem dX0_copyFrom_28 : decode cX0_copyFrom 28 = .ok (.aload_n 1, 1) := by decide +kernel
theorem dX0_copyFrom_29 : decode cX0_copyFrom 29 = .ok (.getfield 15, 3) := by decide +kernel
theorem dX0_copyFrom_32 : decode cX0_copyFrom 32 = .ok (.iload_n 2, 1) := by decide +kernel
theorem dX0_copyFrom_33 : decode cX0_copyFrom 33 = .ok (.invokestatic 29, 3) := by decide +kernel
theorem dX0_copyFrom_36 : decode cX0_copyFrom 36 = .ok (.invokestatic 33, 3) := by decide +kernel
theorem dX0_copyFrom_39 : decode cX0_copyFrom 39 = .ok (.iinc 2 1, 3) := by decide +kernel
theorem dX0_copyFrom_42 : decode cX0_copyFrom 42 = .ok (.goto (-40), 3) := by decide +kernel
theorem dX0_copyFrom_45 : decode cX0_copyFrom 45 = .ok (.iconst 0, 1) := by decide +kernel
theorem dX0_copyFrom_46 : decode cX0_copyFrom 46 = .ok (.istore_n 2, 1) := by decide +kernel
theorem dX0_copyFrom_47 : decode cX0_copyFrom 47 = .ok (.iload_n 2, 1) := by decide +kernel
theorem dX0_copyFrom_48 : decode cX0_copyFrom 48 = .ok (.bipush 10, 2) := by decide +kernel
theorem dX0_copyFrom_50 : decode cX0_copyFrom 50 = .ok (.if_icmp .ge 22, 3) := by decide +kernel
theorem dX0_copyFrom_53 : decode cX0_copyFrom 53 = .ok (.aload_n 0, 1) := by decide +kernel
theorem dX0_copyFrom_54 : decode cX0_copyFrom 54 = .ok (.iload_n 2, 1) := by decide +kernel
theorem dX0_copyFrom_55 : decode cX0_copyFrom 55 = .ok (.invokevirtual 37, 3) := by decide +kernel
theorem dX0_copyFrom_58 : decode cX0_copyFrom 58 = .ok (.aload_n 1, 1) := by decide +kernel
theorem dX0_copyFrom_59 : decode cX0_copyFrom 59 = .ok (.iload_n 2, 1) := by decide +kernel
theorem dX0_copyFrom_60 : decode cX0_copyFrom 60 = .ok (.invokevirtual 37, 3) := by decide +kernel
theorem dX0_copyFrom_63 : decode cX0_copyFrom 63 = .ok (.invokevirtual 41, 3) := by decide +kernel
theorem dX0_copyFrom_66 : decode cX0_copyFrom 66 = .ok (.iinc 2 1, 3) := by decide +kernel
theorem dX0_copyFrom_69 : decode cX0_copyFrom 69 = .ok (.goto (-22), 3) := by decide +kernel
theorem dX0_copyFrom_72 : decode cX0_copyFrom 72 = .ok (.aload_n 0, 1) := by decide +kernel
theorem dX0_copyFrom_73 : decode cX0_copyFrom 73 = .ok (.aload_n 1, 1) := by decide +kernel
theorem dX0_copyFrom_74 : decode cX0_copyFrom 74 = .ok (.getfield 45, 3) := by decide +kernel
theorem dX0_copyFrom_77 : decode cX0_copyFrom 77 = .ok (.putfield 45, 3) := by decide +kernel
theorem dX0_copyFrom_80 : decode cX0_copyFrom 80 = .ok (.return_, 1) := by decide +kernel
theorem lp_X0_copyFrom2 {b o : Nat} {B : Bk} {D : Mem} (hb : isB b) (ho : isB o) (hne : o ≠ b) (h : Enc D o B) (hz : ZB D o) : ∀ (m : Nat) (i : Nat) (D1 : Mem), i + m = 10 → CB2 D D1 b o i → X 3 138 j_X0_copyFrom 47 [some (.ref b), some (.ref o), some (.int (nI i))] [] (138, P0, D1) (fun x σ => ∃ D' : Mem, x = [] ∧ σ = wd D' ∧ Enc D' b B ∧ ZB D' b ∧ Fr (inB b) D D') := by
  intro m
  induction m with
  | zero =>
    intro i D1 hi hc
    obtain ⟨⟨b1, b2⟩, ⟨b3, b4, b5, b6⟩, ⟨b7, b8, b9⟩, ⟨c1, c2, c3⟩, ⟨c4, c5, c6⟩, c7, c8⟩ := hb.facts
    obtain ⟨⟨b1o, b2o⟩, ⟨b3o, b4o, b5o, b6o⟩, ⟨b7o, b8o, b9o⟩, ⟨c1o, c2o, c3o⟩, ⟨c4o, c5o, c6o⟩, c7o, c8o⟩ := ho.facts
    have hf := isB_far hb ho hne
    have hi10 : i = 10 := by omega
    subst hi10
    refine X_iload_n (nx := 48) dX0_copyFrom_47 rfl rfl rfl ?_
    refine X_bipush (v := nI 10) (nx := 50) dX0_copyFrom_48 rfl rfl ?_
    refine X_icmp_ge (tgt := 72) (nx := 53) dX0_copyFrom_50 rfl rfl (fun h50 => ?_) (fun h50 => ?_)
    · skip
      refine X_aload_n (nx := 73) dX0_copyFrom_72 rfl rfl rfl ?_
      refine X_aload_n (nx := 74) dX0_copyFrom_73 rfl rfl rfl ?_
      refine M_getI (nx := 77) dX0_copyFrom_74 rfl fl_RX0_45 rfl (by first | assumption | rfl | decide | omega) (by first | assumption | rfl | decide | omega) ?_
      refine M_putI (nx := 80) dX0_copyFrom_77 rfl fl_RX0_45 rfl rfl (by first | assumption | rfl | decide | omega) (by first | assumption | rfl | decide | omega) ?_
      exact Z_retv dX0_copyFrom_80 rfl (CB2.enc hf hc h hz)
    · exact absurd h50 (fun q => q (nI_le (by omega) (by omega)))
  | succ m ih =>
    intro i D1 hi hc
    obtain ⟨⟨b1, b2⟩, ⟨b3, b4, b5, b6⟩, ⟨b7, b8, b9⟩, ⟨c1, c2, c3⟩, ⟨c4, c5, c6⟩, c7, c8⟩ := hb.facts
    obtain ⟨⟨b1o, b2o⟩, ⟨b3o, b4o, b5o, b6o⟩, ⟨b7o, b8o, b9o⟩, ⟨c1o, c2o, c3o⟩, ⟨c4o, c5o, c6o⟩, c7o, c8o⟩ := ho.facts
    have hf := isB_far hb ho hne
    obtain ⟨r1, r2, r3, r4, r5, r6⟩ := (c8 i (by omega)).2.facts
    refine X_iload_n (nx := 48) dX0_copyFrom_47 rfl rfl rfl ?_
    refine X_bipush (v := nI 10) (nx := 50) dX0_copyFrom_48 rfl rfl ?_
    refine X_icmp_ge (tgt := 72) (nx := 53) dX0_copyFrom_50 rfl rfl (fun h50 => ?_) (fun h50 => ?_)
    · exact absurd h50 (nI_ge (by omega) (by omega))
    · skip
      refine X_aload_n (nx := 54) dX0_copyFrom_53 rfl rfl rfl ?_
      refine X_iload_n (nx := 55) dX0_copyFrom_54 rfl rfl rfl ?_
      refine Y_Vr1 (nx := 58) dX0_copyFrom_55 rfl ml_RX0_37 kj_X0_at kv_X0_at (sp_X0_at hb (i := i) rfl (by omega)) (by first | assumption | rfl | decide | omega) (by first | assumption | rfl | decide | omega) (by decide) rfl (by first | decide | omega) (by exact Nat.le_of_ble_eq_true rfl) ?_
      refine X_aload_n (nx := 59) dX0_copyFrom_58 rfl rfl rfl ?_
      refine X_iload_n (nx := 60) dX0_copyFrom_59 rfl rfl rfl ?_
      refine Y_Vr1 (nx := 63) dX0_copyFrom_60 rfl ml_RX0_37 kj_X0_at kv_X0_at (sp_X0_at ho (i := i) rfl (by omega)) (by first | assumption | rfl | decide | omega) (by first | assumption | rfl | decide | omega) (by decide) rfl (by first | decide | omega) (by exact Nat.le_of_ble_eq_true rfl) ?_
      refine Z_Vv1 (nx := 66) dX0_copyFrom_63 rfl ml_RX0_41 kj_X4_copyFrom kv_X4_copyFrom (sp_X4_copyFrom (c8 i (by omega)).2 (c8o i (by omega)).2 (by unfold rt; omega) (by rw [hc.1.2 (rt o i) (by unfold inB rt; omega)]; exact hz i (by omega))) (by first | assumption | rfl | decide | omega) (by first | assumption | rfl | decide | omega) (by decide) rfl (by first | decide | omega) (by exact Nat.le_of_ble_eq_true rfl) (fun D63 g63 => ?_)
      refine X_iinc (nx := 69) dX0_copyFrom_66 rfl (by decide) rfl (by first | exact ii1 _ | rfl) rfl (st_s (st_s (st_0))) ?_
      refine X_goto (tgt := 47) dX0_copyFrom_69 rfl ?_
      exact ih (i + 1) _ (by omega) (hc.step hf (by omega) g63)
theorem lp_X0_copyFrom1 {b o : Nat} {B : Bk} {D : Mem} (hb : isB b) (ho : isB o) (hne : o ≠ b) (h : Enc D o B) (hz : ZB D o) : ∀ (m : Nat) (i : Nat) (D1 : Mem), i + m = 3 → CB1 D D1 b o i → X 3 138 j_X0_copyFrom 2 [some (.ref b), some (.ref o), some (.int (nI i))] [] (138, P0, D1) (fun x σ => ∃ D' : Mem, x = [] ∧ σ = wd D' ∧ Enc D' b B ∧ ZB D' b ∧ Fr (inB b) D D') := by
  intro m
  induction m with
  | zero =>
    intro i D1 hi hc
    obtain ⟨⟨b1, b2⟩, ⟨b3, b4, b5, b6⟩, ⟨b7, b8, b9⟩, ⟨c1, c2, c3⟩, ⟨c4, c5, c6⟩, c7, c8⟩ := hb.facts
    obtain ⟨⟨b1o, b2o⟩, ⟨b3o, b4o, b5o, b6o⟩, ⟨b7o, b8o, b9o⟩, ⟨c1o, c2o, c3o⟩, ⟨c4o, c5o, c6o⟩, c7o, c8o⟩ := ho.facts
    have hf := isB_far hb ho hne
    have hi3 : i = 3 := by omega
    subst hi3
    refine X_iload_n (nx := 3) dX0_copyFrom_2 rfl rfl rfl ?_
    refine X_iconst (v := nI 3) (nx := 4) dX0_copyFrom_3 rfl rfl ?_
    refine X_icmp_ge (tgt := 45) (nx := 7) dX0_copyFrom_4 rfl rfl (fun h4 => ?_) (fun h4 => ?_)
    · skip
      refine X_iconst (v := 0) (nx := 46) dX0_copyFrom_45 rfl rfl ?_
      refine X_istore_n (i := 2) (nx := 47) dX0_copyFrom_46 rfl rfl (by decide) rfl (st_s (st_s (st_0))) ?_
      exact lp_X0_copyFrom2 hb ho hne h hz 10 0 _ rfl ⟨hc, fun k hk => by omega⟩
    · exact absurd h4 (fun q => q (nI_le (by omega) (by omega)))
  | succ m ih =>
    intro i D1 hi hc
    obtain ⟨⟨b1, b2⟩, ⟨b3, b4, b5, b6⟩, ⟨b7, b8, b9⟩, ⟨c1, c2, c3⟩, ⟨c4, c5, c6⟩, c7, c8⟩ := hb.facts
    obtain ⟨⟨b1o, b2o⟩, ⟨b3o, b4o, b5o, b6o⟩, ⟨b7o, b8o, b9o⟩, ⟨c1o, c2o, c3o⟩, ⟨c4o, c5o, c6o⟩, c7o, c8o⟩ := ho.facts
    have hf := isB_far hb ho hne
    refine X_iload_n (nx := 3) dX0_copyFrom_2 rfl rfl rfl ?_
    refine X_iconst (v := nI 3) (nx := 4) dX0_copyFrom_3 rfl rfl ?_
    refine X_icmp_ge (tgt := 45) (nx := 7) dX0_copyFrom_4 rfl rfl (fun h4 => ?_) (fun h4 => ?_)
    · exact absurd h4 (nI_ge (by omega) (by omega))
    · skip
      refine X_aload_n (nx := 8) dX0_copyFrom_7 rfl rfl rfl ?_
      refine M_getP (nx := 11) dX0_copyFrom_8 rfl fl_RX0_9 rfl (by first | assumption | rfl | decide | omega) (by first | assumption | rfl | decide | omega) (by first | assumption | rfl | decide | omega) ?_
      refine X_iload_n (nx := 12) dX0_copyFrom_11 rfl rfl rfl ?_
      refine X_aload_n (nx := 13) dX0_copyFrom_12 rfl rfl rfl ?_
      refine M_getP (nx := 16) dX0_copyFrom_13 rfl fl_RX0_9 rfl (by first | assumption | rfl | decide | omega) (by first | assumption | rfl | decide | omega) (by first | assumption | rfl | decide | omega) ?_
      refine X_iload_n (nx := 17) dX0_copyFrom_16 rfl rfl rfl ?_
      refine Y_Si2 (nx := 20) dX0_copyFrom_17 rfl ml_RX0_29 kj_X7_numberAt ks_X7_numberAt (sp_X7_numberAt (i := i) (by omega) (by omega) rfl (by omega)) (by first | decide | omega) (by exact Nat.le_of_ble_eq_true rfl) ?_
      refine Y_Sv3 (nx := 23) dX0_copyFrom_20 rfl ml_RX0_33 kj_X7_put ks_X7_put (sp_X7_put (i := i) (by omega) (by omega) rfl (by omega)) (by first | decide | omega) (by exact Nat.le_of_ble_eq_true rfl) ?_
      refine X_aload_n (nx := 24) dX0_copyFrom_23 rfl rfl rfl ?_
      refine M_getP (nx := 27) dX0_copyFrom_24 rfl fl_RX0_15 rfl (by first | assumption | rfl | decide | omega) (by first | assumption | rfl | decide | omega) (by first | assumption | rfl | decide | omega) ?_
      refine X_iload_n (nx := 28) dX0_copyFrom_27 rfl rfl rfl ?_
      refine X_aload_n (nx := 29) dX0_copyFrom_28 rfl rfl rfl ?_
      refine M_getP (nx := 32) dX0_copyFrom_29 rfl fl_RX0_15 rfl (by first | assumption | rfl | decide | omega) (by first | assumption | rfl | decide | omega) (by first | assumption | rfl | decide | omega) ?_
      refine X_iload_n (nx := 33) dX0_copyFrom_32 rfl rfl rfl ?_
      refine Y_Si2 (nx := 36) dX0_copyFrom_33 rfl ml_RX0_29 kj_X7_numberAt ks_X7_numberAt (sp_X7_numberAt (i := i) (by omega) (by omega) rfl (by omega)) (by first | decide | omega) (by exact Nat.le_of_ble_eq_true rfl) ?_
      refine Y_Sv3 (nx := 39) dX0_copyFrom_36 rfl ml_RX0_33 kj_X7_put ks_X7_put (sp_X7_put (i := i) (by omega) (by omega) rfl (by omega)) (by first | decide | omega) (by exact Nat.le_of_ble_eq_true rfl) ?_
      refine X_iinc (nx := 42) dX0_copyFrom_39 rfl (by decide) rfl (by first | exact ii1 _ | rfl) rfl (st_s (st_s (st_0))) ?_
      refine X_goto (tgt := 2) dX0_copyFrom_42 rfl ?_
      exact ih (i + 1) _ (by omega) (hc.step hf (by omega))
theorem sp_X0_copyFrom {b o : Nat} {B : Bk} {D : Mem} (hb : isB b) (ho : isB o) (hne : o ≠ b) (h : Enc D o B) (hz : ZB D o) : Rvx 3 j_X0_copyFrom [.ref b, .ref o] D (fun D' => Enc D' b B ∧ ZB D' b ∧ Fr (inB b) D D') := by
  refine E.start 1 (ls := [some (.ref b), some (.ref o), none]) (by decide +kernel) (Nat.le_of_ble_eq_true rfl) rfl (Nat.le_refl _) (Nat.le_refl _) ?_
  refine X_iconst (v := 0) (nx := 1) dX0_copyFrom_0 rfl rfl ?_
  refine X_istore_n (i := 2) (nx := 2) dX0_copyFrom_1 rfl rfl (by decide) rfl (st_s (st_s (st_0))) ?_
  exact lp_X0_copyFrom1 hb ho hne h hz 3 0 _ rfl ⟨fun k hk => by omega, Fr.rf⟩
