/-! BOOKS: routers and routes, abstractly -/
/-- kinds, figures, how many came, there, router, verb, mounted, segments -/
abbrev Bk := (Nat → Nat) × (Nat → Nat) × Nat × (Nat → Bool) × (Nat → Nat) × (Nat → Int32) × (Nat → Int32) × (Nat → List Nat)
def kd_ (B : Bk) : Nat → Nat := B.1
def fg_ (B : Bk) : Nat → Nat := B.2.1
def cm_ (B : Bk) : Nat := B.2.2.1
def th_ (B : Bk) : Nat → Bool := B.2.2.2.1
def ro_ (B : Bk) : Nat → Nat := B.2.2.2.2.1
def vb_ (B : Bk) : Nat → Int32 := B.2.2.2.2.2.1
def mo_ (B : Bk) : Nat → Int32 := B.2.2.2.2.2.2.1
def sg_ (B : Bk) : Nat → List Nat := B.2.2.2.2.2.2.2
/-- the cells of a book hold it -/
def Enc (D : Mem) (b : Nat) (B : Bk) : Prop :=
  (∀ i, i < 3 → D (b + 1) i = nI (kd_ B i) ∧ D (b + 2) i = nI (fg_ B i)) ∧ D b 4 = nI (cm_ B) ∧ cm_ B ≤ 10 ∧ ∀ i, i < cm_ B → RT D (rt b i) (th_ B i) (ro_ B i) (vb_ B i) (mo_ B i) (sg_ B i)
/-- the booleans of a book's cells are booleans -/
def ZB (D : Mem) (b : Nat) : Prop := ∀ i, i < 10 → D (rt b i) 6 = 0 ∨ D (rt b i) 6 = 1
def inB (b x : Nat) : Prop := b ≤ x ∧ x < b + 26
theorem Enc.fr {D D' : Mem} {b : Nat} {B : Bk} (h : Enc D b B) (hf : ∀ x, inB b x → D' x = D x) : Enc D' b B := by
  obtain ⟨h1, h2, h3, h4⟩ := h
  refine ⟨fun i hi => ⟨by rw [hf _ ⟨by omega, by omega⟩]; exact (h1 i hi).1, by rw [hf _ ⟨by omega, by omega⟩]; exact (h1 i hi).2⟩, by rw [hf _ ⟨by omega, by omega⟩]; exact h2, h3, fun i hi => (h4 i hi).fr (hf _ ⟨by unfold rt; omega, by unfold rt; omega⟩) (hf _ ⟨by unfold rt; omega, by unfold rt; omega⟩)⟩
theorem ZB.fr {D D' : Mem} {b : Nat} (h : ZB D b) (hf : ∀ x, inB b x → D' x = D x) : ZB D' b := fun i hi => by
  rw [hf _ ⟨by unfold rt; omega, by unfold rt; omega⟩]; exact h i hi
/-- whether a number is a route's that is there -/
def isTh (B : Bk) (x : Int32) : Bool := decide (0 ≤ x ∧ x < nI (cm_ B)) && th_ B x.toNatClampNeg
def thN (B : Bk) (i : Nat) : Bool := decide (i < cm_ B) && th_ B i
theorem isTh_n {B : Bk} {i : Nat} (hc : cm_ B ≤ 10) (hi : i < 2147483648) : isTh B (nI i) = thN B i := by
  unfold isTh thN
  rw [nI_clamp hi]
  congr 1
  exact decide_eq_decide.mpr ⟨fun q => (nI_ltI hi (by omega)).mp q.2, fun q => ⟨nI_pos' hi, nI_lt q (by omega)⟩⟩
theorem isTh_t {B : Bk} {x : Int32} (hc : cm_ B ≤ 10) (h : isTh B x = true) : ∃ i, i < cm_ B ∧ x = nI i ∧ th_ B i = true := by
  unfold isTh at h
  simp only [Bool.and_eq_true, decide_eq_true_eq] at h
  obtain ⟨⟨h1, h2⟩, h3⟩ := h
  obtain ⟨i, hi, rfl⟩ := nI_of (Int32.not_lt.mpr h1)
  refine ⟨i, (nI_ltI hi (by omega)).mp h2, rfl, ?_⟩
  rw [nI_clamp hi] at h3
  exact h3
/-- whether it is a mount -/
def mtB (B : Bk) (i : Nat) : Bool := decide (0 ≤ mo_ B i)
def sumN (f : Nat → Nat) : Nat → Nat
  | 0 => 0
  | n + 1 => sumN f n + f n
def sgs (B : Bk) (i : Nat) : Nat := if thN B i = true then (sg_ B i).length else 0
theorem dX0_at_0 : decode cX0_at 0 = .ok (.iload_n 1, 1) := by decide +kernel
theorem dX0_at_1 : decode cX0_at 1 = .ok (.ifCond .lt 12, 3) := by decide +kernel
theorem dX0_at_4 : decode cX0_at 4 = .ok (.iload_n 1, 1) := by decide +kernel
theorem dX0_at_5 : decode cX0_at 5 = .ok (.aload_n 0, 1) := by decide +kernel
theorem dX0_at_6 : decode cX0_at 6 = .ok (.getfield 20, 3) := by decide +kernel
theorem dX0_at_9 : decode cX0_at 9 = .ok (.arraylength, 1) := by decide +kernel
theorem dX0_at_10 : decode cX0_at 10 = .ok (.if_icmp .lt 8, 3) := by decide +kernel
theorem dX0_at_13 : decode cX0_at 13 = .ok (.aload_n 0, 1) := by decide +kernel
theorem dX0_at_14 : decode cX0_at 14 = .ok (.getfield 25, 3) := by decide +kernel
theorem dX0_at_17 : decode cX0_at 17 = .ok (.areturn, 1) := by decide +kernel
theorem dX0_at_18 : decode cX0_at 18 = .ok (.aload_n 0, 1) := by decide +kernel
theorem dX0_at_19 : decode cX0_at 19 = .ok (.getfield 20, 3) := by decide +kernel
theorem dX0_at_22 : decode cX0_at 22 = .ok (.iload_n 1, 1) := by decide +kernel
theorem dX0_at_23 : decode cX0_at 23 = .ok (.aaload, 1) := by decide +kernel
theorem dX0_at_24 : decode cX0_at 24 = .ok (.astore_n 2, 1) := by decide +kernel
theorem dX0_at_25 : decode cX0_at 25 = .ok (.aload_n 2, 1) := by decide +kernel
theorem dX0_at_26 : decode cX0_at 26 = .ok (.ifnonnull 10, 3) := by decide +kernel
theorem dX0_at_29 : decode cX0_at 29 = .ok (.aload_n 0, 1) := by decide +kernel
theorem dX0_at_30 : decode cX0_at 30 = .ok (.getfield 25, 3) := by decide +kernel
theorem dX0_at_33 : decode cX0_at 33 = .ok (.goto 4, 3) := by decide +kernel
theorem dX0_at_36 : decode cX0_at 36 = .ok (.aload_n 2, 1) := by decide +kernel
theorem dX0_at_37 : decode cX0_at 37 = .ok (.areturn, 1) := by decide +kernel
theorem sp_X0_at {b i : Nat} {x : Int32} {D : Mem} (hb : isB b) (hx : x = nI i) (hi : i < 10) : Er 1 j_X0_at [.ref b, .int x] D (rt b i) (D) := by
  refine E.start 1 (ls := [some (.ref b), some (.int x), none]) (by decide +kernel) (Nat.le_of_ble_eq_true rfl) rfl (Nat.le_refl _) (Nat.le_refl _) ?_
  subst hx
  obtain ⟨⟨b1, b2⟩, ⟨b3, b4, b5, b6⟩, ⟨b7, b8, b9⟩, ⟨c1, c2, c3⟩, ⟨c4, c5, c6⟩, c7, c8⟩ := hb.facts
  have hin : vp_in (nI i) (lay (b + 3)).2 := vp_in_nI (by omega) (by omega)
  have hpp : P0 (b + 3) (nI i).toNatClampNeg = some (rt b i) := by rw [nI_clamp (by omega)]; exact (c8 i hi).1
  refine X_iload_n (nx := 1) dX0_at_0 rfl rfl rfl ?_
  refine X_if_lt (tgt := 13) (nx := 4) dX0_at_1 rfl rfl (fun h1 => ?_) (fun h1 => ?_)
  · exact absurd h1 (nI_neg (by omega))
  · skip
    refine X_iload_n (nx := 5) dX0_at_4 rfl rfl rfl ?_
    refine X_aload_n (nx := 6) dX0_at_5 rfl rfl rfl ?_
    refine M_getP (nx := 9) dX0_at_6 rfl fl_RX0_20 rfl (by first | assumption | rfl | decide | omega) (by first | assumption | rfl | decide | omega) (by first | assumption | rfl | decide | omega) ?_
    refine M_alen (nx := 10) dX0_at_9 rfl (by first | assumption | rfl | decide | omega) (Or.inr (by assumption)) ?_
    refine X_icmp_lt (tgt := 18) (nx := 13) dX0_at_10 rfl rfl (fun h10 => ?_) (fun h10 => ?_)
    · skip
      refine X_aload_n (nx := 19) dX0_at_18 rfl rfl rfl ?_
      refine M_getP (nx := 22) dX0_at_19 rfl fl_RX0_20 rfl (by first | assumption | rfl | decide | omega) (by first | assumption | rfl | decide | omega) (by first | assumption | rfl | decide | omega) ?_
      refine X_iload_n (nx := 23) dX0_at_22 rfl rfl rfl ?_
      refine M_aald (nx := 24) dX0_at_23 rfl (by first | assumption | rfl | decide | omega) (by first | assumption | rfl | decide | omega) hin (by assumption) ?_
      refine X_astore_n (i := 2) (nx := 25) dX0_at_24 rfl rfl (by decide) rfl (st_s (st_s (st_0))) ?_
      refine X_aload_n (nx := 26) dX0_at_25 rfl rfl rfl ?_
      refine X_ifnonnull (tgt := 36) dX0_at_26 rfl ?_
      refine X_aload_n (nx := 37) dX0_at_36 rfl rfl rfl ?_
      exact Y_reta dX0_at_37 ⟨_, rfl⟩ rfl rfl
    · exact absurd h10 (fun q => q (nI_lt (by omega) (by omega)))
theorem dX0_isThere_0 : decode cX0_isThere 0 = .ok (.iload_n 1, 1) := by decide +kernel
theorem dX0_isThere_1 : decode cX0_isThere 1 = .ok (.ifCond .lt 26, 3) := by decide +kernel
theorem dX0_isThere_4 : decode cX0_isThere 4 = .ok (.iload_n 1, 1) := by decide +kernel
theorem dX0_isThere_5 : decode cX0_isThere 5 = .ok (.aload_n 0, 1) := by decide +kernel
theorem dX0_isThere_6 : decode cX0_isThere 6 = .ok (.getfield 45, 3) := by decide +kernel
theorem dX0_isThere_9 : decode cX0_isThere 9 = .ok (.if_icmp .ge 18, 3) := by decide +kernel
theorem dX0_isThere_12 : decode cX0_isThere 12 = .ok (.aload_n 0, 1) := by decide +kernel
theorem dX0_isThere_13 : decode cX0_isThere 13 = .ok (.iload_n 1, 1) := by decide +kernel
theorem dX0_isThere_14 : decode cX0_isThere 14 = .ok (.invokevirtual 37, 3) := by decide +kernel
theorem dX0_isThere_17 : decode cX0_isThere 17 = .ok (.getfield 49, 3) := by decide +kernel
theorem dX0_isThere_20 : decode cX0_isThere 20 = .ok (.ifCond .eq 7, 3) := by decide +kernel
theorem dX0_isThere_23 : decode cX0_isThere 23 = .ok (.iconst 1, 1) := by decide +kernel
theorem dX0_isThere_24 : decode cX0_isThere 24 = .ok (.goto 4, 3) := by decide +kernel
theorem dX0_isThere_27 : decode cX0_isThere 27 = .ok (.iconst 0, 1) := by decide +kernel
theorem dX0_isThere_28 : decode cX0_isThere 28 = .ok (.ireturn, 1) := by decide +kernel
theorem sp_X0_isThere {b : Nat} {B : Bk} {x : Int32} {D : Mem} (hb : isB b) (h : Enc D b B) : Ei 2 j_X0_isThere [.ref b, .int x] D (b2i (isTh B x)) (D) := by
  obtain ⟨⟨b1, b2⟩, ⟨b3, b4, b5, b6⟩, ⟨b7, b8, b9⟩, ⟨c1, c2, c3⟩, ⟨c4, c5, c6⟩, c7, c8⟩ := hb.facts
  have hc := h.2.2.1
  refine E.start 0 (ls := [some (.ref b), some (.int x)]) (by decide +kernel) (Nat.le_of_ble_eq_true rfl) rfl (Nat.le_refl _) (Nat.le_refl _) ?_
  refine X_iload_n (nx := 1) dX0_isThere_0 rfl rfl rfl ?_
  refine X_if_lt (tgt := 27) (nx := 4) dX0_isThere_1 rfl rfl (fun h1 => ?_) (fun h1 => ?_)
  · skip
    refine X_iconst (v := 0) (nx := 28) dX0_isThere_27 rfl rfl ?_
    exact Y_reti dX0_isThere_28 (Or.inr ⟨rfl, by first | exact Or.inl rfl | exact Or.inr rfl | exact b2i_01 _ | assumption⟩) (by first | (unfold isTh; rw [decide_eq_false (fun q => absurd q.1 (Int32.not_le.mpr (by assumption)))]; rfl) | (unfold isTh; rw [decide_eq_false (fun q => absurd q.2 (Int32.not_lt.mpr (by assumption)))]; rfl) | (rw [hr.1, b2i_f] at h20; rw [h20]; rfl) | (rw [hr.1, b2i_t] at h20; rw [h20]; rfl)) rfl
  · skip
    refine X_iload_n (nx := 5) dX0_isThere_4 rfl rfl rfl ?_
    refine X_aload_n (nx := 6) dX0_isThere_5 rfl rfl rfl ?_
    refine M_getI (nx := 9) dX0_isThere_6 rfl fl_RX0_45 rfl (by first | assumption | rfl | decide | omega) (by first | assumption | rfl | decide | omega) ?_
    refine X_top (h.2.1) ?_
    refine X_icmp_ge (tgt := 27) (nx := 12) dX0_isThere_9 rfl rfl (fun h9 => ?_) (fun h9 => ?_)
    · skip
      refine X_iconst (v := 0) (nx := 28) dX0_isThere_27 rfl rfl ?_
      exact Y_reti dX0_isThere_28 (Or.inr ⟨rfl, by first | exact Or.inl rfl | exact Or.inr rfl | exact b2i_01 _ | assumption⟩) (by first | (unfold isTh; rw [decide_eq_false (fun q => absurd q.1 (Int32.not_le.mpr (by assumption)))]; rfl) | (unfold isTh; rw [decide_eq_false (fun q => absurd q.2 (Int32.not_lt.mpr (by assumption)))]; rfl) | (rw [hr.1, b2i_f] at h20; rw [h20]; rfl) | (rw [hr.1, b2i_t] at h20; rw [h20]; rfl)) rfl
    · skip
      obtain ⟨i, hi, rfl⟩ := nI_of h1
      have hic : i < cm_ B := (nI_ltI hi (by omega)).mp (Int32.not_le.mp h9)
      have hri := (c8 i (by omega)).2.facts
      have hr := h.2.2.2 i hic
      rw [isTh_n hc hi]
      unfold thN
      rw [decide_eq_true hic, Bool.true_and]
      refine X_aload_n (nx := 13) dX0_isThere_12 rfl rfl rfl ?_
      refine X_iload_n (nx := 14) dX0_isThere_13 rfl rfl rfl ?_
      refine Y_Vr1 (nx := 17) dX0_isThere_14 rfl ml_RX0_37 kj_X0_at kv_X0_at (sp_X0_at hb (i := i) rfl (by omega)) (by first | assumption | rfl | decide | omega) (by first | assumption | rfl | decide | omega) (by decide) rfl (by first | decide | omega) (by exact Nat.le_of_ble_eq_true rfl) ?_
      obtain ⟨r1, r2, r3, r4, r5, r6⟩ := hri
      refine M_getI (nx := 20) dX0_isThere_17 rfl fl_RX0_49 rfl (by first | assumption | rfl | decide | omega) (by first | assumption | rfl | decide | omega) ?_
      refine X_if_eq (tgt := 27) (nx := 23) dX0_isThere_20 rfl rfl (fun h20 => ?_) (fun h20 => ?_)
      · skip
        refine X_iconst (v := 0) (nx := 28) dX0_isThere_27 rfl rfl ?_
        exact Y_reti dX0_isThere_28 (Or.inr ⟨rfl, by first | exact Or.inl rfl | exact Or.inr rfl | exact b2i_01 _ | assumption⟩) (by first | (unfold isTh; rw [decide_eq_false (fun q => absurd q.1 (Int32.not_le.mpr (by assumption)))]; rfl) | (unfold isTh; rw [decide_eq_false (fun q => absurd q.2 (Int32.not_lt.mpr (by assumption)))]; rfl) | (rw [hr.1, b2i_f] at h20; rw [h20]; rfl) | (rw [hr.1, b2i_t] at h20; rw [h20]; rfl)) rfl
      · skip
        refine X_iconst (v := 1) (nx := 24) dX0_isThere_23 rfl rfl ?_
        refine X_goto (tgt := 28) dX0_isThere_24 rfl ?_
        exact Y_reti dX0_isThere_28 (Or.inr ⟨rfl, by first | exact Or.inl rfl | exact Or.inr rfl | exact b2i_01 _ | assumption⟩) (by first | (unfold isTh; rw [decide_eq_false (fun q => absurd q.1 (Int32.not_le.mpr (by assumption)))]; rfl) | (unfold isTh; rw [decide_eq_false (fun q => absurd q.2 (Int32.not_lt.mpr (by assumption)))]; rfl) | (rw [hr.1, b2i_f] at h20; rw [h20]; rfl) | (rw [hr.1, b2i_t] at h20; rw [h20]; rfl)) rfl
theorem dX0_isFull_0 : decode cX0_isFull 0 = .ok (.aload_n 0, 1) := by decide +kernel
theorem dX0_isFull_1 : decode cX0_isFull 1 = .ok (.getfield 45, 3) := by decide +kernel
theorem dX0_isFull_4 : decode cX0_isFull 4 = .ok (.bipush 10, 2) := by decide +kernel
theorem dX0_isFull_6 : decode cX0_isFull 6 = .ok (.if_icmp .lt 7, 3) := by decide +kernel
theorem dX0_isFull_9 : decode cX0_isFull 9 = .ok (.iconst 1, 1) := by decide +kernel
theorem dX0_isFull_10 : decode cX0_isFull 10 = .ok (.goto 4, 3) := by decide +kernel
theorem dX0_isFull_13 : decode cX0_isFull 13 = .ok (.iconst 0, 1) := by decide +kernel
theorem dX0_isFull_14 : decode cX0_isFull 14 = .ok (.ireturn, 1) := by decide +kernel
theorem sp_X0_isFull {b : Nat} {B : Bk} {D : Mem} (hb : isB b) (h : Enc D b B) : Ei 1 j_X0_isFull [.ref b] D (b2i (decide (10 ≤ cm_ B))) (D) := by
  obtain ⟨⟨b1, b2⟩, ⟨b3, b4, b5, b6⟩, ⟨b7, b8, b9⟩, ⟨c1, c2, c3⟩, ⟨c4, c5, c6⟩, c7, c8⟩ := hb.facts
  have hc := h.2.2.1
  refine E.start 0 (ls := [some (.ref b)]) (by decide +kernel) (Nat.le_of_ble_eq_true rfl) rfl (Nat.le_refl _) (Nat.le_refl _) ?_
  refine X_aload_n (nx := 1) dX0_isFull_0 rfl rfl rfl ?_
  refine M_getI (nx := 4) dX0_isFull_1 rfl fl_RX0_45 rfl (by first | assumption | rfl | decide | omega) (by first | assumption | rfl | decide | omega) ?_
  refine X_top (h.2.1) ?_
  refine X_bipush (v := nI 10) (nx := 6) dX0_isFull_4 rfl rfl ?_
  refine X_icmp_lt (tgt := 13) (nx := 9) dX0_isFull_6 rfl rfl (fun h6 => ?_) (fun h6 => ?_)
  · skip
    rw [nI_ltI (by omega) (by omega)] at h6
    refine X_iconst (v := 0) (nx := 14) dX0_isFull_13 rfl rfl ?_
    exact Y_reti dX0_isFull_14 (Or.inr ⟨rfl, by first | exact Or.inl rfl | exact Or.inr rfl | exact b2i_01 _ | assumption⟩) (by first | exact cl_t (by omega) | exact cl_f (by omega)) rfl
  · skip
    rw [nI_ltI (by omega) (by omega)] at h6
    refine X_iconst (v := 1) (nx := 10) dX0_isFull_9 rfl rfl ?_
    refine X_goto (tgt := 14) dX0_isFull_10 rfl ?_
    exact Y_reti dX0_isFull_14 (Or.inr ⟨rfl, by first | exact Or.inl rfl | exact Or.inr rfl | exact b2i_01 _ | assumption⟩) (by first | exact cl_t (by omega) | exact cl_f (by omega)) rfl
theorem dX0_draft_0 : decode cX0_draft 0 = .ok (.aload_n 0, 1) := by decide +kernel
theorem dX0_draft_1 : decode cX0_draft 1 = .ok (.aload_n 0, 1) := by decide +kernel
theorem dX0_draft_2 : decode cX0_draft 2 = .ok (.getfield 45, 3) := by decide +kernel
theorem dX0_draft_5 : decode cX0_draft 5 = .ok (.invokevirtual 37, 3) := by decide +kernel
theorem dX0_draft_8 : decode cX0_draft 8 = .ok (.areturn, 1) := by decide +kernel
theorem sp_X0_draft {b : Nat} {B : Bk} {D : Mem} (hb : isB b) (h : Enc D b B) (hl : cm_ B < 10) : Er 2 j_X0_draft [.ref b] D (rt b (cm_ B)) (D) := by
  obtain ⟨⟨b1, b2⟩, ⟨b3, b4, b5, b6⟩, ⟨b7, b8, b9⟩, ⟨c1, c2, c3⟩, ⟨c4, c5, c6⟩, c7, c8⟩ := hb.facts
  have hc := h.2.2.1
  refine E.start 0 (ls := [some (.ref b)]) (by decide +kernel) (Nat.le_of_ble_eq_true rfl) rfl (Nat.le_refl _) (Nat.le_refl _) ?_
  refine X_aload_n (nx := 1) dX0_draft_0 rfl rfl rfl ?_
  refine X_aload_n (nx := 2) dX0_draft_1 rfl rfl rfl ?_
  refine M_getI (nx := 5) dX0_draft_2 rfl fl_RX0_45 rfl (by first | assumption | rfl | decide | omega) (by first | assumption | rfl | decide | omega) ?_
  refine X_top (h.2.1) ?_
  refine Y_Vr1 (nx := 8) dX0_draft_5 rfl ml_RX0_37 kj_X0_at kv_X0_at (sp_X0_at hb rfl hl) (by first | assumption | rfl | decide | omega) (by first | assumption | rfl | decide | omega) (by decide) rfl (by first | decide | omega) (by exact Nat.le_of_ble_eq_true rfl) ?_
  exact Y_reta dX0_draft_8 ⟨_, rfl⟩ rfl rfl
theorem dX0_addDraft_0 : decode cX0_addDraft 0 = .ok (.aload_n 0, 1) := by decide +kernel
theorem dX0_addDraft_1 : decode cX0_addDraft 1 = .ok (.invokevirtual 53, 3) := by decide +kernel
theorem dX0_addDraft_4 : decode cX0_addDraft 4 = .ok (.ifCond .ne 25, 3) := by decide +kernel
theorem dX0_addDraft_7 : decode cX0_addDraft 7 = .ok (.aload_n 0, 1) := by decide +kernel
theorem dX0_addDraft_8 : decode cX0_addDraft 8 = .ok (.aload_n 0, 1) := by decide +kernel
theorem dX0_addDraft_9 : decode cX0_addDraft 9 = .ok (.getfield 45, 3) := by decide +kernel
theorem dX0_addDraft_12 : decode cX0_addDraft 12 = .ok (.invokevirtual 37, 3) := by decide +kernel
theorem dX0_addDraft_15 : decode cX0_addDraft 15 = .ok (.iconst 1, 1) := by decide +kernel
theorem dX0_addDraft_16 : decode cX0_addDraft 16 = .ok (.putfield 49, 3) := by decide +kernel
theorem dX0_addDraft_19 : decode cX0_addDraft 19 = .ok (.aload_n 0, 1) := by decide +kernel
theorem dX0_addDraft_20 : decode cX0_addDraft 20 = .ok (.dup, 1) := by decide +kernel
theorem dX0_addDraft_21 : decode cX0_addDraft 21 = .ok (.getfield 45, 3) := by decide +kernel
theorem dX0_addDraft_24 : decode cX0_addDraft 24 = .ok (.iconst 1, 1) := by decide +kernel
theorem dX0_addDraft_25 : decode cX0_addDraft 25 = .ok (.iadd, 1) := by decide +kernel
theorem dX0_addDraft_26 : decode cX0_addDraft 26 = .ok (.putfield 45, 3) := by decide +kernel
theorem dX0_addDraft_29 : decode cX0_addDraft 29 = .ok (.return_, 1) := by decide +kernel
theorem sp_X0_addDraft {b : Nat} {B : Bk} {D : Mem} (hb : isB b) (h : Enc D b B) (hl : cm_ B < 10) : Ev 2 j_X0_addDraft [.ref b] D (up2 (up2 D (rt b (cm_ B)) 6 1) b 4 (nI (cm_ B + 1))) := by
  obtain ⟨⟨b1, b2⟩, ⟨b3, b4, b5, b6⟩, ⟨b7, b8, b9⟩, ⟨c1, c2, c3⟩, ⟨c4, c5, c6⟩, c7, c8⟩ := hb.facts
  obtain ⟨r1, r2, r3, r4, r5, r6⟩ := (c8 _ hl).2.facts
  have hne : ¬ b = rt b (cm_ B) := by unfold rt; omega
  refine E.start 0 (ls := [some (.ref b)]) (by decide +kernel) (Nat.le_of_ble_eq_true rfl) rfl (Nat.le_refl _) (Nat.le_refl _) ?_
  refine X_aload_n (nx := 1) dX0_addDraft_0 rfl rfl rfl ?_
  refine Y_Vi0 (nx := 4) dX0_addDraft_1 rfl ml_RX0_53 kj_X0_isFull kv_X0_isFull (sp_X0_isFull hb h) (by first | assumption | rfl | decide | omega) (by first | assumption | rfl | decide | omega) (by decide) rfl (by first | decide | omega) (by exact Nat.le_of_ble_eq_true rfl) ?_
  refine X_if_ne (tgt := 29) (nx := 7) dX0_addDraft_4 rfl rfl (fun h4 => ?_) (fun h4 => ?_)
  · exact absurd h4 (fun q => q (by rw [decide_eq_false (by omega)]; rfl))
  · skip
    refine X_aload_n (nx := 8) dX0_addDraft_7 rfl rfl rfl ?_
    refine X_aload_n (nx := 9) dX0_addDraft_8 rfl rfl rfl ?_
    refine M_getI (nx := 12) dX0_addDraft_9 rfl fl_RX0_45 rfl (by first | assumption | rfl | decide | omega) (by first | assumption | rfl | decide | omega) ?_
    refine X_top (h.2.1) ?_
    refine Y_Vr1 (nx := 15) dX0_addDraft_12 rfl ml_RX0_37 kj_X0_at kv_X0_at (sp_X0_at hb rfl hl) (by first | assumption | rfl | decide | omega) (by first | assumption | rfl | decide | omega) (by decide) rfl (by first | decide | omega) (by exact Nat.le_of_ble_eq_true rfl) ?_
    refine X_iconst (v := 1) (nx := 16) dX0_addDraft_15 rfl rfl ?_
    refine M_putZ (nx := 19) dX0_addDraft_16 rfl fl_RX0_49 rfl rfl (Or.inr rfl) (by first | assumption | rfl | decide | omega) (by first | assumption | rfl | decide | omega) ?_
    refine X_aload_n (nx := 20) dX0_addDraft_19 rfl rfl rfl ?_
    refine X_dup (nx := 21) dX0_addDraft_20 rfl rfl ?_
    refine M_getI (nx := 24) dX0_addDraft_21 rfl fl_RX0_45 rfl (by first | assumption | rfl | decide | omega) (by first | assumption | rfl | decide | omega) ?_
    refine X_top ((up2_other (fun q => hne q.1)).trans h.2.1) ?_
    refine X_iconst (v := 1) (nx := 25) dX0_addDraft_24 rfl rfl ?_
    refine X_iadd (nx := 26) dX0_addDraft_25 rfl ?_
    refine X_top (nI_1 _) ?_
    refine M_putI (nx := 29) dX0_addDraft_26 rfl fl_RX0_45 rfl rfl (by first | assumption | rfl | decide | omega) (by first | assumption | rfl | decide | omega) ?_
    exact Y_retv dX0_addDraft_29 rfl rfl
theorem dX0_thereBits_0 : decode cX0_thereBits 0 = .ok (.iconst 0, 1) := by decide +kernel
theorem dX0_thereBits_1 : decode cX0_thereBits 1 = .ok (.istore_n 1, 1) := by decide +kernel
theorem dX0_thereBits_2 : decode cX0_thereBits 2 = .ok (.iconst 0, 1) := by decide +kernel
theorem dX0_thereBits_3 : decode cX0_thereBits 3 = .ok (.istore_n 2, 1) := by decide +kernel
theorem dX0_thereBits_4 : decode cX0_thereBits 4 = .ok (.iload_n 2, 1) := by decide +kernel
theorem dX0_thereBits_5 : decode cX0_thereBits 5 = .ok (.bipush 10, 2) := by decide +kernel
theorem dX0_thereBits_7 : decode cX0_thereBits 7 = .ok (.if_icmp .ge 23, 3) := by decide +kernel
theorem dX0_thereBits_10 : decode cX0_thereBits 10 = .ok (.aload_n 0, 1) := by decide +kernel
theorem dX0_thereBits_11 : decode cX0_thereBits 11 = .ok (.iload_n 2, 1) := by decide +kernel
theorem dX0_thereBits_12 : decode cX0_thereBits 12 = .ok (.invokevirtual 57, 3) := by decide +kernel
theorem dX0_thereBits_15 : decode cX0_thereBits 15 = .ok (.ifCond .eq 9, 3) := by decide +kernel
theorem dX0_thereBits_18 : decode cX0_thereBits 18 = .ok (.iload_n 1, 1) := by decide +kernel
theorem dX0_thereBits_19 : decode cX0_thereBits 19 = .ok (.iconst 1, 1) := by decide +kernel
theorem dX0_thereBits_20 : decode cX0_thereBits 20 = .ok (.iload_n 2, 1) := by decide +kernel
theorem dX0_thereBits_21 : decode cX0_thereBits 21 = .ok (.ishl, 1) := by decide +kernel
theorem dX0_thereBits_22 : decode cX0_thereBits 22 = .ok (.ior, 1) := by decide +kernel
theorem dX0_thereBits_23 : decode cX0_thereBits 23 = .ok (.istore_n 1, 1) := by decide +kernel
theorem dX0_thereBits_24 : decode cX0_thereBits 24 = .ok (.iinc 2 1, 3) := by decide +kernel
theorem dX0_thereBits_27 : decode cX0_thereBits 27 = .ok (.goto (-23), 3) := by decide +kernel
theorem dX0_thereBits_30 : decode cX0_thereBits 30 = .ok (.iload_n 1, 1) := by decide +kernel
theorem dX0_thereBits_31 : decode cX0_thereBits 31 = .ok (.ireturn, 1) := by decide +kernel
theorem lp_X0_thereBits {b : Nat} {B : Bk} {D : Mem} (hb : isB b) (h : Enc D b B) : ∀ (m : Nat) (i : Nat), i + m = 10 → X 3 138 j_X0_thereBits 4 [some (.ref b), some (.int (nI (mkn (thN B) i))), some (.int (nI i))] [] (138, P0, D) (fun r σ => r = [.int (nI (mkn (thN B) 10))] ∧ σ = wd D) := by
  intro m
  induction m with
  | zero =>
    intro i hi
    obtain ⟨⟨b1, b2⟩, ⟨b3, b4, b5, b6⟩, ⟨b7, b8, b9⟩, ⟨c1, c2, c3⟩, ⟨c4, c5, c6⟩, c7, c8⟩ := hb.facts
    refine X_iload_n (nx := 5) dX0_thereBits_4 rfl rfl rfl ?_
    refine X_bipush (v := nI 10) (nx := 7) dX0_thereBits_5 rfl rfl ?_
    refine X_icmp_ge (tgt := 30) (nx := 10) dX0_thereBits_7 rfl rfl (fun h7 => ?_) (fun h7 => ?_)
    · skip
      refine X_iload_n (nx := 31) dX0_thereBits_30 rfl rfl rfl ?_
      exact Y_reti dX0_thereBits_31 (Or.inl rfl) (by rw [show i = 10 by omega]) rfl
    · exact absurd h7 (fun q => q (nI_le (by omega) (by omega)))
  | succ m ih =>
    intro i hi
    obtain ⟨⟨b1, b2⟩, ⟨b3, b4, b5, b6⟩, ⟨b7, b8, b9⟩, ⟨c1, c2, c3⟩, ⟨c4, c5, c6⟩, c7, c8⟩ := hb.facts
    refine X_iload_n (nx := 5) dX0_thereBits_4 rfl rfl rfl ?_
    refine X_bipush (v := nI 10) (nx := 7) dX0_thereBits_5 rfl rfl ?_
    refine X_icmp_ge (tgt := 30) (nx := 10) dX0_thereBits_7 rfl rfl (fun h7 => ?_) (fun h7 => ?_)
    · exact absurd h7 (nI_ge (by omega) (by omega))
    · skip
      refine X_aload_n (nx := 11) dX0_thereBits_10 rfl rfl rfl ?_
      refine X_iload_n (nx := 12) dX0_thereBits_11 rfl rfl rfl ?_
      refine Y_Vi1 (nx := 15) dX0_thereBits_12 rfl ml_RX0_57 kj_X0_isThere kv_X0_isThere (sp_X0_isThere hb h) (by first | assumption | rfl | decide | omega) (by first | assumption | rfl | decide | omega) (by decide) rfl (by first | decide | omega) (by exact Nat.le_of_ble_eq_true rfl) ?_
      refine X_if_eq (tgt := 24) (nx := 18) dX0_thereBits_15 rfl rfl (fun h15 => ?_) (fun h15 => ?_)
      · skip
        rw [isTh_n h.2.2.1 (by omega), b2i_f] at h15
        rw [ior_skip h15]
        refine X_iinc (nx := 27) dX0_thereBits_24 rfl (by decide) rfl (by first | exact ii1 _ | rfl) rfl (st_s (st_s (st_0))) ?_
        refine X_goto (tgt := 4) dX0_thereBits_27 rfl ?_
        exact ih (i + 1) (by omega)
      · skip
        rw [isTh_n h.2.2.1 (by omega), b2i_t] at h15
        refine X_iload_n (nx := 19) dX0_thereBits_18 rfl rfl rfl ?_
        refine X_iconst (v := 1) (nx := 20) dX0_thereBits_19 rfl rfl ?_
        refine X_iload_n (nx := 21) dX0_thereBits_20 rfl rfl rfl ?_
        refine X_ishl (nx := 22) dX0_thereBits_21 rfl ?_
        refine X_ior (nx := 23) dX0_thereBits_22 rfl ?_
        refine X_top (ior_step (p := thN B) h15 (by omega)) ?_
        refine X_istore_n (i := 1) (nx := 24) dX0_thereBits_23 rfl rfl (by decide) rfl (st_s (st_0)) ?_
        refine X_iinc (nx := 27) dX0_thereBits_24 rfl (by decide) rfl (by first | exact ii1 _ | rfl) rfl (st_s (st_s (st_0))) ?_
        refine X_goto (tgt := 4) dX0_thereBits_27 rfl ?_
        exact ih (i + 1) (by omega)
theorem sp_X0_thereBits {b : Nat} {B : Bk} {D : Mem} (hb : isB b) (h : Enc D b B) : Ei 3 j_X0_thereBits [.ref b] D (nI (mkn (thN B) 10)) (D) := by
  refine E.start 2 (ls := [some (.ref b), none, none]) (by decide +kernel) (Nat.le_of_ble_eq_true rfl) rfl (Nat.le_refl _) (Nat.le_refl _) ?_
  refine X_iconst (v := 0) (nx := 1) dX0_thereBits_0 rfl rfl ?_
  refine X_istore_n (i := 1) (nx := 2) dX0_thereBits_1 rfl rfl (by decide) rfl (st_s (st_0)) ?_
  refine X_iconst (v := 0) (nx := 3) dX0_thereBits_2 rfl rfl ?_
  refine X_istore_n (i := 2) (nx := 4) dX0_thereBits_3 rfl rfl (by decide) rfl (st_s (st_s (st_0))) ?_
  exact lp_X0_thereBits hb h 10 0 rfl
theorem dX0_mountBits_0 : decode cX0_mountBits 0 = .ok (.iconst 0, 1) := by decide +kernel
theorem dX0_mountBits_1 : decode cX0_mountBits 1 = .ok (.istore_n 1, 1) := by decide +kernel
theorem dX0_mountBits_2 : decode cX0_mountBits 2 = .ok (.iconst 0, 1) := by decide +kernel
theorem dX0_mountBits_3 : decode cX0_mountBits 3 = .ok (.istore_n 2, 1) := by decide +kernel
theorem dX0_mountBits_4 : decode cX0_mountBits 4 = .ok (.iload_n 2, 1) := by decide +kernel
theorem dX0_mountBits_5 : decode cX0_mountBits 5 = .ok (.bipush 10, 2) := by decide +kernel
theorem dX0_mountBits_7 : decode cX0_mountBits 7 = .ok (.if_icmp .ge 34, 3) := by decide +kernel
theorem dX0_mountBits_10 : decode cX0_mountBits 10 = .ok (.aload_n 0, 1) := by decide +kernel
theorem dX0_mountBits_11 : decode cX0_mountBits 11 = .ok (.iload_n 2, 1) := by decide +kernel
theorem dX0_mountBits_12 : decode cX0_mountBits 12 = .ok (.invokevirtual 57, 3) := by decide +kernel
theorem dX0_mountBits_15 : decode cX0_mountBits 15 = .ok (.ifCond .eq 20, 3) := by decide +kernel
theorem dX0_mountBits_18 : decode cX0_mountBits 18 = .ok (.aload_n 0, 1) := by decide +kernel
theorem dX0_mountBits_19 : decode cX0_mountBits 19 = .ok (.iload_n 2, 1) := by decide +kernel
theorem dX0_mountBits_20 : decode cX0_mountBits 20 = .ok (.invokevirtual 37, 3) := by decide +kernel
theorem dX0_mountBits_23 : decode cX0_mountBits 23 = .ok (.invokevirtual 61, 3) := by decide +kernel
theorem dX0_mountBits_26 : decode cX0_mountBits 26 = .ok (.ifCond .eq 9, 3) := by decide +kernel
theorem dX0_mountBits_29 : decode cX0_mountBits 29 = .ok (.iload_n 1, 1) := by decide +kernel
theorem dX0_mountBits_30 : decode cX0_mountBits 30 = .ok (.iconst 1, 1) := by decide +kernel
theorem dX0_mountBits_31 : decode cX0_mountBits 31 = .ok (.iload_n 2, 1) := by decide +kernel
theorem dX0_mountBits_32 : decode cX0_mountBits 32 = .ok (.ishl, 1) := by decide +kernel
theorem dX0_mountBits_33 : decode cX0_mountBits 33 = .ok (.ior, 1) := by decide +kernel
theorem dX0_mountBits_34 : decode cX0_mountBits 34 = .ok (.istore_n 1, 1) := by decide +kernel
theorem dX0_mountBits_35 : decode cX0_mountBits 35 = .ok (.iinc 2 1, 3) := by decide +kernel
theorem dX0_mountBits_38 : decode cX0_mountBits 38 = .ok (.goto (-34), 3) := by decide +kernel
theorem dX0_mountBits_41 : decode cX0_mountBits 41 = .ok (.iload_n 1, 1) := by decide +kernel
theorem dX0_mountBits_42 : decode cX0_mountBits 42 = .ok (.ireturn, 1) := by decide +kernel
theorem lp_X0_mountBits {b : Nat} {B : Bk} {D : Mem} (hb : isB b) (h : Enc D b B) : ∀ (m : Nat) (i : Nat), i + m = 10 → X 3 138 j_X0_mountBits 4 [some (.ref b), some (.int (nI (mkn (fun i => thN B i && mtB B i) i))), some (.int (nI i))] [] (138, P0, D) (fun r σ => r = [.int (nI (mkn (fun i => thN B i && mtB B i) 10))] ∧ σ = wd D) := by
  intro m
  induction m with
  | zero =>
    intro i hi
    obtain ⟨⟨b1, b2⟩, ⟨b3, b4, b5, b6⟩, ⟨b7, b8, b9⟩, ⟨c1, c2, c3⟩, ⟨c4, c5, c6⟩, c7, c8⟩ := hb.facts
    refine X_iload_n (nx := 5) dX0_mountBits_4 rfl rfl rfl ?_
    refine X_bipush (v := nI 10) (nx := 7) dX0_mountBits_5 rfl rfl ?_
    refine X_icmp_ge (tgt := 41) (nx := 10) dX0_mountBits_7 rfl rfl (fun h7 => ?_) (fun h7 => ?_)
    · skip
      refine X_iload_n (nx := 42) dX0_mountBits_41 rfl rfl rfl ?_
      exact Y_reti dX0_mountBits_42 (Or.inl rfl) (by rw [show i = 10 by omega]) rfl
    · exact absurd h7 (fun q => q (nI_le (by omega) (by omega)))
  | succ m ih =>
    intro i hi
    obtain ⟨⟨b1, b2⟩, ⟨b3, b4, b5, b6⟩, ⟨b7, b8, b9⟩, ⟨c1, c2, c3⟩, ⟨c4, c5, c6⟩, c7, c8⟩ := hb.facts
    refine X_iload_n (nx := 5) dX0_mountBits_4 rfl rfl rfl ?_
    refine X_bipush (v := nI 10) (nx := 7) dX0_mountBits_5 rfl rfl ?_
    refine X_icmp_ge (tgt := 41) (nx := 10) dX0_mountBits_7 rfl rfl (fun h7 => ?_) (fun h7 => ?_)
    · exact absurd h7 (nI_ge (by omega) (by omega))
    · skip
      refine X_aload_n (nx := 11) dX0_mountBits_10 rfl rfl rfl ?_
      refine X_iload_n (nx := 12) dX0_mountBits_11 rfl rfl rfl ?_
      refine Y_Vi1 (nx := 15) dX0_mountBits_12 rfl ml_RX0_57 kj_X0_isThere kv_X0_isThere (sp_X0_isThere hb h) (by first | assumption | rfl | decide | omega) (by first | assumption | rfl | decide | omega) (by decide) rfl (by first | decide | omega) (by exact Nat.le_of_ble_eq_true rfl) ?_
      refine X_if_eq (tgt := 35) (nx := 18) dX0_mountBits_15 rfl rfl (fun h15 => ?_) (fun h15 => ?_)
      · skip
        rw [isTh_n h.2.2.1 (by omega), b2i_f] at h15
        rw [ior_skip (p := (fun i => thN B i && mtB B i)) (by show (thN B i && _) = false; rw [h15]; rfl)]
        refine X_iinc (nx := 38) dX0_mountBits_35 rfl (by decide) rfl (by first | exact ii1 _ | rfl) rfl (st_s (st_s (st_0))) ?_
        refine X_goto (tgt := 4) dX0_mountBits_38 rfl ?_
        exact ih (i + 1) (by omega)
      · skip
        rw [isTh_n h.2.2.1 (by omega), b2i_t] at h15
        have hic : i < cm_ B := by unfold thN at h15; simp only [Bool.and_eq_true, decide_eq_true_eq] at h15; exact h15.1
        have hr := h.2.2.2 i hic
        obtain ⟨r1, r2, r3, r4, r5, r6⟩ := (c8 i (by omega)).2.facts
        refine X_aload_n (nx := 19) dX0_mountBits_18 rfl rfl rfl ?_
        refine X_iload_n (nx := 20) dX0_mountBits_19 rfl rfl rfl ?_
        refine Y_Vr1 (nx := 23) dX0_mountBits_20 rfl ml_RX0_37 kj_X0_at kv_X0_at (sp_X0_at hb (i := i) rfl (by omega)) (by first | assumption | rfl | decide | omega) (by first | assumption | rfl | decide | omega) (by decide) rfl (by first | decide | omega) (by exact Nat.le_of_ble_eq_true rfl) ?_
        refine Y_Vi0 (nx := 26) dX0_mountBits_23 rfl ml_RX0_61 kj_X4_isMount kv_X4_isMount (sp_X4_isMount (c8 i (by omega)).2) (by first | assumption | rfl | decide | omega) (by first | assumption | rfl | decide | omega) (by decide) rfl (by first | decide | omega) (by exact Nat.le_of_ble_eq_true rfl) ?_
        refine X_if_eq (tgt := 35) (nx := 29) dX0_mountBits_26 rfl rfl (fun h26 => ?_) (fun h26 => ?_)
        · skip
          rw [hr.2.2.2.1, b2i_f] at h26
          rw [ior_skip (p := (fun i => thN B i && mtB B i)) (by show (thN B i && decide (0 ≤ mo_ B i)) = false; rw [h26]; simp)]
          refine X_iinc (nx := 38) dX0_mountBits_35 rfl (by decide) rfl (by first | exact ii1 _ | rfl) rfl (st_s (st_s (st_0))) ?_
          refine X_goto (tgt := 4) dX0_mountBits_38 rfl ?_
          exact ih (i + 1) (by omega)
        · skip
          rw [hr.2.2.2.1, b2i_t] at h26
          refine X_iload_n (nx := 30) dX0_mountBits_29 rfl rfl rfl ?_
          refine X_iconst (v := 1) (nx := 31) dX0_mountBits_30 rfl rfl ?_
          refine X_iload_n (nx := 32) dX0_mountBits_31 rfl rfl rfl ?_
          refine X_ishl (nx := 33) dX0_mountBits_32 rfl ?_
          refine X_ior (nx := 34) dX0_mountBits_33 rfl ?_
          refine X_top (ior_step (p := (fun i => thN B i && mtB B i)) (by show (thN B i && decide (0 ≤ mo_ B i)) = true; rw [h15, h26]; rfl) (by omega)) ?_
          refine X_istore_n (i := 1) (nx := 35) dX0_mountBits_34 rfl rfl (by decide) rfl (st_s (st_0)) ?_
          refine X_iinc (nx := 38) dX0_mountBits_35 rfl (by decide) rfl (by first | exact ii1 _ | rfl) rfl (st_s (st_s (st_0))) ?_
          refine X_goto (tgt := 4) dX0_mountBits_38 rfl ?_
          exact ih (i + 1) (by omega)
theorem sp_X0_mountBits {b : Nat} {B : Bk} {D : Mem} (hb : isB b) (h : Enc D b B) : Ei 3 j_X0_mountBits [.ref b] D (nI (mkn (fun i => thN B i && mtB B i) 10)) (D) := by
  refine E.start 2 (ls := [some (.ref b), none, none]) (by decide +kernel) (Nat.le_of_ble_eq_true rfl) rfl (Nat.le_refl _) (Nat.le_refl _) ?_
  refine X_iconst (v := 0) (nx := 1) dX0_mountBits_0 rfl rfl ?_
  refine X_istore_n (i := 1) (nx := 2) dX0_mountBits_1 rfl rfl (by decide) rfl (st_s (st_0)) ?_
  refine X_iconst (v := 0) (nx := 3) dX0_mountBits_2 rfl rfl ?_
  refine X_istore_n (i := 2) (nx := 4) dX0_mountBits_3 rfl rfl (by decide) rfl (st_s (st_s (st_0))) ?_
  exact lp_X0_mountBits hb h 10 0 rfl
theorem dX0_segmentsThere_0 : decode cX0_segmentsThere 0 = .ok (.iconst 0, 1) := by decide +kernel
theorem dX0_segmentsThere_1 : decode cX0_segmentsThere 1 = .ok (.istore_n 1, 1) := by decide +kernel
theorem dX0_segmentsThere_2 : decode cX0_segmentsThere 2 = .ok (.iconst 0, 1) := by decide +kernel
theorem dX0_segmentsThere_3 : decode cX0_segmentsThere 3 = .ok (.istore_n 2, 1) := by decide +kernel
theorem dX0_segmentsThere_4 : decode cX0_segmentsThere 4 = .ok (.iload_n 2, 1) := by decide +kernel
theorem dX0_segmentsThere_5 : decode cX0_segmentsThere 5 = .ok (.bipush 10, 2) := by decide +kernel
theorem dX0_segmentsThere_7 : decode cX0_segmentsThere 7 = .ok (.if_icmp .ge 28, 3) := by decide +kernel
theorem dX0_segmentsThere_10 : decode cX0_segmentsThere 10 = .ok (.aload_n 0, 1) := by decide +kernel
theorem dX0_segmentsThere_11 : decode cX0_segmentsThere 11 = .ok (.iload_n 2, 1) := by decide +kernel
theorem dX0_segmentsThere_12 : decode cX0_segmentsThere 12 = .ok (.invokevirtual 57, 3) := by decide +kernel
theorem dX0_segmentsThere_15 : decode cX0_segmentsThere 15 = .ok (.ifCond .eq 14, 3) := by decide +kernel
theorem dX0_segmentsThere_18 : decode cX0_segmentsThere 18 = .ok (.iload_n 1, 1) := by decide +kernel
theorem dX0_segmentsThere_19 : decode cX0_segmentsThere 19 = .ok (.aload_n 0, 1) := by decide +kernel
theorem dX0_segmentsThere_20 : decode cX0_segmentsThere 20 = .ok (.iload_n 2, 1) := by decide +kernel
theorem dX0_segmentsThere_21 : decode cX0_segmentsThere 21 = .ok (.invokevirtual 37, 3) := by decide +kernel
theorem dX0_segmentsThere_24 : decode cX0_segmentsThere 24 = .ok (.getfield 64, 3) := by decide +kernel
theorem dX0_segmentsThere_27 : decode cX0_segmentsThere 27 = .ok (.iadd, 1) := by decide +kernel
theorem dX0_segmentsThere_28 : decode cX0_segmentsThere 28 = .ok (.istore_n 1, 1) := by decide +kernel
theorem dX0_segmentsThere_29 : decode cX0_segmentsThere 29 = .ok (.iinc 2 1, 3) := by decide +kernel
theorem dX0_segmentsThere_32 : decode cX0_segmentsThere 32 = .ok (.goto (-28), 3) := by decide +kernel
theorem dX0_segmentsThere_35 : decode cX0_segmentsThere 35 = .ok (.iload_n 1, 1) := by decide +kernel
theorem dX0_segmentsThere_36 : decode cX0_segmentsThere 36 = .ok (.ireturn, 1) := by decide +kernel
theorem lp_X0_segmentsThere {b : Nat} {B : Bk} {D : Mem} (hb : isB b) (h : Enc D b B) : ∀ (m : Nat) (i : Nat), i + m = 10 → X 3 138 j_X0_segmentsThere 4 [some (.ref b), some (.int (nI (sumN (sgs B) i))), some (.int (nI i))] [] (138, P0, D) (fun r σ => r = [.int (nI (sumN (sgs B) 10))] ∧ σ = wd D) := by
  intro m
  induction m with
  | zero =>
    intro i hi
    obtain ⟨⟨b1, b2⟩, ⟨b3, b4, b5, b6⟩, ⟨b7, b8, b9⟩, ⟨c1, c2, c3⟩, ⟨c4, c5, c6⟩, c7, c8⟩ := hb.facts
    refine X_iload_n (nx := 5) dX0_segmentsThere_4 rfl rfl rfl ?_
    refine X_bipush (v := nI 10) (nx := 7) dX0_segmentsThere_5 rfl rfl ?_
    refine X_icmp_ge (tgt := 35) (nx := 10) dX0_segmentsThere_7 rfl rfl (fun h7 => ?_) (fun h7 => ?_)
    · skip
      refine X_iload_n (nx := 36) dX0_segmentsThere_35 rfl rfl rfl ?_
      exact Y_reti dX0_segmentsThere_36 (Or.inl rfl) (by rw [show i = 10 by omega]) rfl
    · exact absurd h7 (fun q => q (nI_le (by omega) (by omega)))
  | succ m ih =>
    intro i hi
    obtain ⟨⟨b1, b2⟩, ⟨b3, b4, b5, b6⟩, ⟨b7, b8, b9⟩, ⟨c1, c2, c3⟩, ⟨c4, c5, c6⟩, c7, c8⟩ := hb.facts
    refine X_iload_n (nx := 5) dX0_segmentsThere_4 rfl rfl rfl ?_
    refine X_bipush (v := nI 10) (nx := 7) dX0_segmentsThere_5 rfl rfl ?_
    refine X_icmp_ge (tgt := 35) (nx := 10) dX0_segmentsThere_7 rfl rfl (fun h7 => ?_) (fun h7 => ?_)
    · exact absurd h7 (nI_ge (by omega) (by omega))
    · skip
      refine X_aload_n (nx := 11) dX0_segmentsThere_10 rfl rfl rfl ?_
      refine X_iload_n (nx := 12) dX0_segmentsThere_11 rfl rfl rfl ?_
      refine Y_Vi1 (nx := 15) dX0_segmentsThere_12 rfl ml_RX0_57 kj_X0_isThere kv_X0_isThere (sp_X0_isThere hb h) (by first | assumption | rfl | decide | omega) (by first | assumption | rfl | decide | omega) (by decide) rfl (by first | decide | omega) (by exact Nat.le_of_ble_eq_true rfl) ?_
      refine X_if_eq (tgt := 29) (nx := 18) dX0_segmentsThere_15 rfl rfl (fun h15 => ?_) (fun h15 => ?_)
      · skip
        rw [isTh_n h.2.2.1 (by omega), b2i_f] at h15
        have e1 : sumN (sgs B) (i + 1) = sumN (sgs B) i := by show _ + sgs B i = _; unfold sgs; rw [if_neg (by rw [h15]; decide)]; rfl
        rw [← e1]
        refine X_iinc (nx := 32) dX0_segmentsThere_29 rfl (by decide) rfl (by first | exact ii1 _ | rfl) rfl (st_s (st_s (st_0))) ?_
        refine X_goto (tgt := 4) dX0_segmentsThere_32 rfl ?_
        exact ih (i + 1) (by omega)
      · skip
        rw [isTh_n h.2.2.1 (by omega), b2i_t] at h15
        have hic : i < cm_ B := by unfold thN at h15; simp only [Bool.and_eq_true, decide_eq_true_eq] at h15; exact h15.1
        have hr := h.2.2.2 i hic
        obtain ⟨r1, r2, r3, r4, r5, r6⟩ := (c8 i (by omega)).2.facts
        have e1 : sumN (sgs B) i + (sg_ B i).length = sumN (sgs B) (i + 1) := by show _ = _ + sgs B i; unfold sgs; rw [if_pos h15]
        refine X_iload_n (nx := 19) dX0_segmentsThere_18 rfl rfl rfl ?_
        refine X_aload_n (nx := 20) dX0_segmentsThere_19 rfl rfl rfl ?_
        refine X_iload_n (nx := 21) dX0_segmentsThere_20 rfl rfl rfl ?_
        refine Y_Vr1 (nx := 24) dX0_segmentsThere_21 rfl ml_RX0_37 kj_X0_at kv_X0_at (sp_X0_at hb (i := i) rfl (by omega)) (by first | assumption | rfl | decide | omega) (by first | assumption | rfl | decide | omega) (by decide) rfl (by first | decide | omega) (by exact Nat.le_of_ble_eq_true rfl) ?_
        refine M_getI (nx := 27) dX0_segmentsThere_24 rfl fl_RX0_64 rfl (by first | assumption | rfl | decide | omega) (by first | assumption | rfl | decide | omega) ?_
        refine X_top (hr.2.2.2.2.2.1) ?_
        refine X_iadd (nx := 28) dX0_segmentsThere_27 rfl ?_
        refine X_top ((nI_add _ _).trans (congrArg nI e1)) ?_
        refine X_istore_n (i := 1) (nx := 29) dX0_segmentsThere_28 rfl rfl (by decide) rfl (st_s (st_0)) ?_
        refine X_iinc (nx := 32) dX0_segmentsThere_29 rfl (by decide) rfl (by first | exact ii1 _ | rfl) rfl (st_s (st_s (st_0))) ?_
        refine X_goto (tgt := 4) dX0_segmentsThere_32 rfl ?_
        exact ih (i + 1) (by omega)
theorem sp_X0_segmentsThere {b : Nat} {B : Bk} {D : Mem} (hb : isB b) (h : Enc D b B) : Ei 3 j_X0_segmentsThere [.ref b] D (nI (sumN (sgs B) 10)) (D) := by
  refine E.start 2 (ls := [some (.ref b), none, none]) (by decide +kernel) (Nat.le_of_ble_eq_true rfl) rfl (Nat.le_refl _) (Nat.le_refl _) ?_
  refine X_iconst (v := 0) (nx := 1) dX0_segmentsThere_0 rfl rfl ?_
  refine X_istore_n (i := 1) (nx := 2) dX0_segmentsThere_1 rfl rfl (by decide) rfl (st_s (st_0)) ?_
  refine X_iconst (v := 0) (nx := 3) dX0_segmentsThere_2 rfl rfl ?_
  refine X_istore_n (i := 2) (nx := 4) dX0_segmentsThere_3 rfl rfl (by decide) rfl (st_s (st_s (st_0))) ?_
  exact lp_X0_segmentsThere hb h 10 0 rfl
/-- the first i segments of o stand in r -/
def cpS (D : Mem) (r o i : Nat) : Mem := fun b x => if b = r + 1 ∧ x < i then D (o + 1) x else D b x
theorem cpS_0 (D : Mem) (r o : Nat) : cpS D r o 0 = D := by funext b x; simp [cpS]
theorem cpS_s {D : Mem} {r o i : Nat} (h : o ≠ r) : up2 (cpS D r o i) (r + 1) i (cpS D r o i (o + 1) i) = cpS D r o (i + 1) := by
  funext b x
  unfold up2 cpS
  by_cases h1 : b = r + 1
  · subst h1
    by_cases h2 : x = i
    · subst h2
      rw [if_pos ⟨rfl, rfl⟩, if_neg (by omega), if_pos ⟨rfl, by omega⟩]
    · rw [if_neg (by omega)]
      by_cases h3 : x < i
      · rw [if_pos ⟨rfl, h3⟩, if_pos ⟨rfl, by omega⟩]
      · rw [if_neg (by omega), if_neg (by omega)]
  · rw [if_neg (by omega), if_neg (by omega), if_neg (by omega)]
theorem cpS_o {D : Mem} {r o i b x : Nat} (h : b ≠ r + 1) : cpS D r o i b x = D b x := by
  unfold cpS
  rw [if_neg (fun q => h q.1)]
def CPR (D D' : Mem) (r o : Nat) : Prop := (∀ x, x < 4 → D' (r + 1) x = D (o + 1) x) ∧ (∀ x, 1 ≤ x → x ≤ 6 → D' r x = D o x) ∧ Fr (fun b => b = r ∨ b = r + 1) D D'
theorem CPR.rt {D D' : Mem} {r o R : Nat} {t : Bool} {v m : Int32} {s : List Nat} (h : CPR D D' r o) (hr : RT D o t R v m s) : RT D' r t R v m s := by
  obtain ⟨h1, h2, h3⟩ := h
  obtain ⟨a, b, c, d, e1, e2, e3, e4, e5⟩ := hr
  exact ⟨(h2 6 (by omega) (by omega)).trans a, (h2 3 (by omega) (by omega)).trans b, (h2 4 (by omega) (by omega)).trans c, (h2 5 (by omega) (by omega)).trans d, e1, (h2 1 (by omega) (by omega)).trans e2, (h2 2 (by omega) (by omega)).trans e3, fun k hk => (h1 k (by omega)).trans (e4 k hk), e5⟩
theorem dX4_copyFrom_0 : decode cX4_copyFrom 0 = .ok (.iconst 0, 1) := by decide +kernel
theorem dX4_copyFrom_1 : decode cX4_copyFrom 1 = .ok (.istore_n 2, 1) := by decide +kernel
theorem dX4_copyFrom_2 : decode cX4_copyFrom 2 = .ok (.iload_n 2, 1) := by decide +kernel
theorem dX4_copyFrom_3 : decode cX4_copyFrom 3 = .ok (.aload_n 0, 1) := by decide +kernel
theorem dX4_copyFrom_4 : decode cX4_copyFrom 4 = .ok (.getfield 9, 3) := by decide +kernel
theorem dX4_copyFrom_7 : decode cX4_copyFrom 7 = .ok (.arraylength, 1) := by decide +kernel
theorem dX4_copyFrom_8 : decode cX4_copyFrom 8 = .ok (.if_icmp .ge 23, 3) := by decide +kernel
theorem dX4_copyFrom_11 : decode cX4_copyFrom 11 = .ok (.aload_n 0, 1) := by decide +kernel
theorem dX4_copyFrom_12 : decode cX4_copyFrom 12 = .ok (.getfield 9, 3) := by decide +kernel
theorem dX4_copyFrom_15 : decode cX4_copyFrom 15 = .ok (.iload_n 2, 1) := by decide +kernel
theorem dX4_copyFrom_16 : decode cX4_copyFrom 16 = .ok (.aload_n 1, 1) := by decide +kernel
theorem dX4_copyFrom_17 : decode cX4_copyFrom 17 = .ok (.getfield 9, 3) := by decide +kernel
theorem dX4_copyFrom_20 : decode cX4_copyFrom 20 = .ok (.iload_n 2, 1) := by decide +kernel
theorem dX4_copyFrom_21 : decode cX4_copyFrom 21 = .ok (.invokestatic 22, 3) := by decide +kernel
theorem dX4_copyFrom_24 : decode cX4_copyFrom 24 = .ok (.iastore, 1) := by decide +kernel
theorem dX4_copyFrom_25 : decode cX4_copyFrom 25 = .ok (.iinc 2 1, 3) := by decide +kernel
theorem dX4_copyFrom_28 : decode cX4_copyFrom 28 = .ok (.goto (-26), 3) := by decide +kernel
theorem dX4_copyFrom_31 : decode cX4_copyFrom 31 = .ok (.aload_n 0, 1) := by decide +kernel
theorem dX4_copyFrom_32 : decode cX4_copyFrom 32 = .ok (.aload_n 1, 1) := by decide +kernel
theorem dX4_copyFrom_33 : decode cX4_copyFrom 33 = .ok (.getfield 26, 3) := by decide +kernel
theorem dX4_copyFrom_36 : decode cX4_copyFrom 36 = .ok (.putfield 26, 3) := by decide +kernel
theorem dX4_copyFrom_39 : decode cX4_copyFrom 39 = .ok (.aload_n 0, 1) := by decide +kernel
theorem dX4_copyFrom_40 : decode cX4_copyFrom 40 = .ok (.aload_n 1, 1) := by decide +kernel
theorem dX4_copyFrom_41 : decode cX4_copyFrom 41 = .ok (.getfield 29, 3) := by decide +kernel
theorem dX4_copyFrom_44 : decode cX4_copyFrom 44 = .ok (.putfield 29, 3) := by decide +kernel
theorem dX4_copyFrom_47 : decode cX4_copyFrom 47 = .ok (.aload_n 0, 1) := by decide +kernel
theorem dX4_copyFrom_48 : decode cX4_copyFrom 48 = .ok (.aload_n 1, 1) := by decide +kernel
theorem dX4_copyFrom_49 : decode cX4_copyFrom 49 = .ok (.getfield 32, 3) := by decide +kernel
theorem dX4_copyFrom_52 : decode cX4_copyFrom 52 = .ok (.putfield 32, 3) := by decide +kernel
theorem dX4_copyFrom_55 : decode cX4_copyFrom 55 = .ok (.aload_n 0, 1) := by decide +kernel
theorem dX4_copyFrom_56 : decode cX4_copyFrom 56 = .ok (.aload_n 1, 1) := by decide +kernel
theorem dX4_copyFrom_57 : decode cX4_copyFrom 57 = .ok (.getfield 15, 3) := by decide +kernel
theorem dX4_copyFrom_60 : decode cX4_copyFrom 60 = .ok (.putfield 15, 3) := by decide +kernel
theorem dX4_copyFrom_63 : decode cX4_copyFrom 63 = .ok (.aload_n 0, 1) := by decide +kernel
theorem dX4_copyFrom_64 : decode cX4_copyFrom 64 = .ok (.aload_n 1, 1) := by decide +kernel
theorem dX4_copyFrom_65 : decode cX4_copyFrom 65 = .ok (.getfield 19, 3) := by decide +kernel
theorem dX4_copyFrom_68 : decode cX4_copyFrom 68 = .ok (.putfield 19, 3) := by decide +kernel
theorem dX4_copyFrom_71 : decode cX4_copyFrom 71 = .ok (.aload_n 0, 1) := by decide +kernel
theorem dX4_copyFrom_72 : decode cX4_copyFrom 72 = .ok (.aload_n 1, 1) := by decide +kernel
theorem dX4_copyFrom_73 : decode cX4_copyFrom 73 = .ok (.getfield 35, 3) := by decide +kernel
theorem dX4_copyFrom_76 : decode cX4_copyFrom 76 = .ok (.putfield 35, 3) := by decide +kernel
theorem dX4_copyFrom_79 : decode cX4_copyFrom 79 = .ok (.return_, 1) := by decide +kernel
theorem lp_X4_copyFrom {r o : Nat} {D : Mem} (hr : isR r) (ho : isR o) (hne : o ≠ r) (hz : D o 6 = 0 ∨ D o 6 = 1) : ∀ (m : Nat) (i : Nat), i + m = 4 → X 2 138 j_X4_copyFrom 2 [some (.ref r), some (.ref o), some (.int (nI i))] [] (138, P0, cpS D r o i) (fun x σ => ∃ D' : Mem, x = [] ∧ σ = wd D' ∧ CPR D D' r o) := by
  intro m
  induction m with
  | zero =>
    intro i hi
    obtain ⟨q1, q2, q3, q4, q5, q6⟩ := hr.facts
    obtain ⟨z1, z2, z3, z4, z5, z6⟩ := ho.facts
    have hd1 : o ≠ r + 1 := fun e => by rw [e] at z2; omega
    have hd2 : o + 1 ≠ r := fun e => by rw [← e] at q2; omega
    have hi4 : i = 4 := by omega
    subst hi4
    refine X_iload_n (nx := 3) dX4_copyFrom_2 rfl rfl rfl ?_
    refine X_aload_n (nx := 4) dX4_copyFrom_3 rfl rfl rfl ?_
    refine M_getP (nx := 7) dX4_copyFrom_4 rfl fl_RX4_9 rfl (by first | assumption | rfl | decide | omega) (by first | assumption | rfl | decide | omega) (by first | assumption | rfl | decide | omega) ?_
    refine M_alen (nx := 8) dX4_copyFrom_7 rfl (by first | assumption | rfl | decide | omega) (Or.inl (by first | assumption | rfl | decide | omega)) ?_
    refine X_icmp_ge (tgt := 31) (nx := 11) dX4_copyFrom_8 rfl rfl (fun h8 => ?_) (fun h8 => ?_)
    · skip
      refine X_aload_n (nx := 32) dX4_copyFrom_31 rfl rfl rfl ?_
      refine X_aload_n (nx := 33) dX4_copyFrom_32 rfl rfl rfl ?_
      refine M_getI (nx := 36) dX4_copyFrom_33 rfl fl_RX4_26 rfl (by first | assumption | rfl | decide | omega) (by first | assumption | rfl | decide | omega) ?_
      refine X_top ((cpS_o (by omega))) ?_
      refine M_putI (nx := 39) dX4_copyFrom_36 rfl fl_RX4_26 rfl rfl (by first | assumption | rfl | decide | omega) (by first | assumption | rfl | decide | omega) ?_
      refine X_aload_n (nx := 40) dX4_copyFrom_39 rfl rfl rfl ?_
      refine X_aload_n (nx := 41) dX4_copyFrom_40 rfl rfl rfl ?_
      refine M_getI (nx := 44) dX4_copyFrom_41 rfl fl_RX4_29 rfl (by first | assumption | rfl | decide | omega) (by first | assumption | rfl | decide | omega) ?_
      refine X_top (((up2_other (by omega)).trans (cpS_o (by omega)))) ?_
      refine M_putI (nx := 47) dX4_copyFrom_44 rfl fl_RX4_29 rfl rfl (by first | assumption | rfl | decide | omega) (by first | assumption | rfl | decide | omega) ?_
      refine X_aload_n (nx := 48) dX4_copyFrom_47 rfl rfl rfl ?_
      refine X_aload_n (nx := 49) dX4_copyFrom_48 rfl rfl rfl ?_
      refine M_getI (nx := 52) dX4_copyFrom_49 rfl fl_RX4_32 rfl (by first | assumption | rfl | decide | omega) (by first | assumption | rfl | decide | omega) ?_
      refine X_top (((up2_other (by omega)).trans ((up2_other (by omega)).trans (cpS_o (by omega))))) ?_
      refine M_putI (nx := 55) dX4_copyFrom_52 rfl fl_RX4_32 rfl rfl (by first | assumption | rfl | decide | omega) (by first | assumption | rfl | decide | omega) ?_
      refine X_aload_n (nx := 56) dX4_copyFrom_55 rfl rfl rfl ?_
      refine X_aload_n (nx := 57) dX4_copyFrom_56 rfl rfl rfl ?_
      refine M_getI (nx := 60) dX4_copyFrom_57 rfl fl_RX4_15 rfl (by first | assumption | rfl | decide | omega) (by first | assumption | rfl | decide | omega) ?_
      refine X_top (((up2_other (by omega)).trans ((up2_other (by omega)).trans ((up2_other (by omega)).trans (cpS_o (by omega)))))) ?_
      refine M_putI (nx := 63) dX4_copyFrom_60 rfl fl_RX4_15 rfl rfl (by first | assumption | rfl | decide | omega) (by first | assumption | rfl | decide | omega) ?_
      refine X_aload_n (nx := 64) dX4_copyFrom_63 rfl rfl rfl ?_
      refine X_aload_n (nx := 65) dX4_copyFrom_64 rfl rfl rfl ?_
      refine M_getI (nx := 68) dX4_copyFrom_65 rfl fl_RX4_19 rfl (by first | assumption | rfl | decide | omega) (by first | assumption | rfl | decide | omega) ?_
      refine X_top (((up2_other (by omega)).trans ((up2_other (by omega)).trans ((up2_other (by omega)).trans ((up2_other (by omega)).trans (cpS_o (by omega))))))) ?_
      refine M_putI (nx := 71) dX4_copyFrom_68 rfl fl_RX4_19 rfl rfl (by first | assumption | rfl | decide | omega) (by first | assumption | rfl | decide | omega) ?_
      refine X_aload_n (nx := 72) dX4_copyFrom_71 rfl rfl rfl ?_
      refine X_aload_n (nx := 73) dX4_copyFrom_72 rfl rfl rfl ?_
      refine M_getI (nx := 76) dX4_copyFrom_73 rfl fl_RX4_35 rfl (by first | assumption | rfl | decide | omega) (by first | assumption | rfl | decide | omega) ?_
      refine X_top (((up2_other (by omega)).trans ((up2_other (by omega)).trans ((up2_other (by omega)).trans ((up2_other (by omega)).trans ((up2_other (by omega)).trans (cpS_o (by omega)))))))) ?_
      refine M_putZ (nx := 79) dX4_copyFrom_76 rfl fl_RX4_35 rfl rfl (by assumption) (by first | assumption | rfl | decide | omega) (by first | assumption | rfl | decide | omega) ?_
      exact Z_retv dX4_copyFrom_79 rfl ⟨fun x hx => by simp [up2, cpS]; intro; omega, fun x h1 h2 => by obtain rfl | rfl | rfl | rfl | rfl | rfl : x = 1 ∨ x = 2 ∨ x = 3 ∨ x = 4 ∨ x = 5 ∨ x = 6 := (by omega) <;> simp [up2], fun b hb => by funext x; simp [up2, cpS]; simp at hb; simp [hb]⟩
    · exact absurd h8 (fun q => q (nI_le (by omega) (by omega)))
  | succ m ih =>
    intro i hi
    obtain ⟨q1, q2, q3, q4, q5, q6⟩ := hr.facts
    obtain ⟨z1, z2, z3, z4, z5, z6⟩ := ho.facts
    have hd1 : o ≠ r + 1 := fun e => by rw [e] at z2; omega
    have hd2 : o + 1 ≠ r := fun e => by rw [← e] at q2; omega
    refine X_iload_n (nx := 3) dX4_copyFrom_2 rfl rfl rfl ?_
    refine X_aload_n (nx := 4) dX4_copyFrom_3 rfl rfl rfl ?_
    refine M_getP (nx := 7) dX4_copyFrom_4 rfl fl_RX4_9 rfl (by first | assumption | rfl | decide | omega) (by first | assumption | rfl | decide | omega) (by first | assumption | rfl | decide | omega) ?_
    refine M_alen (nx := 8) dX4_copyFrom_7 rfl (by first | assumption | rfl | decide | omega) (Or.inl (by first | assumption | rfl | decide | omega)) ?_
    refine X_icmp_ge (tgt := 31) (nx := 11) dX4_copyFrom_8 rfl rfl (fun h8 => ?_) (fun h8 => ?_)
    · exact absurd h8 (nI_ge (by omega) (by omega))
    · skip
      refine X_aload_n (nx := 12) dX4_copyFrom_11 rfl rfl rfl ?_
      refine M_getP (nx := 15) dX4_copyFrom_12 rfl fl_RX4_9 rfl (by first | assumption | rfl | decide | omega) (by first | assumption | rfl | decide | omega) (by first | assumption | rfl | decide | omega) ?_
      refine X_iload_n (nx := 16) dX4_copyFrom_15 rfl rfl rfl ?_
      refine X_aload_n (nx := 17) dX4_copyFrom_16 rfl rfl rfl ?_
      refine M_getP (nx := 20) dX4_copyFrom_17 rfl fl_RX4_9 rfl (by first | assumption | rfl | decide | omega) (by first | assumption | rfl | decide | omega) (by first | assumption | rfl | decide | omega) ?_
      refine X_iload_n (nx := 21) dX4_copyFrom_20 rfl rfl rfl ?_
      refine Y_Si2 (nx := 24) dX4_copyFrom_21 rfl ml_RX4_22 kj_X7_numberAt ks_X7_numberAt (sp_X7_numberAt (i := i) (by omega) (by omega) rfl (by omega)) (by first | decide | omega) (by exact Nat.le_of_ble_eq_true rfl) ?_
      refine M_iast (nx := 25) dX4_copyFrom_24 rfl (by first | assumption | rfl | decide | omega) (by first | assumption | rfl | decide | omega) (vp_in_nI (by omega) (by omega)) ?_
      refine X_iinc (nx := 28) dX4_copyFrom_25 rfl (by decide) rfl (by first | exact ii1 _ | rfl) rfl (st_s (st_s (st_0))) ?_
      refine X_goto (tgt := 2) dX4_copyFrom_28 rfl ?_
      rw [nI_clamp (by omega), cpS_s hne]
      exact ih (i + 1) (by omega)
theorem sp_X4_copyFrom {r o : Nat} {D : Mem} (hr : isR r) (ho : isR o) (hne : o ≠ r) (hz : D o 6 = 0 ∨ D o 6 = 1) : Rvx 2 j_X4_copyFrom [.ref r, .ref o] D (fun D' => CPR D D' r o) := by
  refine E.start 1 (ls := [some (.ref r), some (.ref o), none]) (by decide +kernel) (Nat.le_of_ble_eq_true rfl) rfl (Nat.le_refl _) (Nat.le_refl _) ?_
  refine X_iconst (v := 0) (nx := 1) dX4_copyFrom_0 rfl rfl ?_
  refine X_istore_n (i := 2) (nx := 2) dX4_copyFrom_1 rfl rfl (by decide) rfl (st_s (st_s (st_0))) ?_
  have hq := lp_X4_copyFrom hr ho hne hz 4 0 rfl
  rw [cpS_0] at hq
  exact hq
