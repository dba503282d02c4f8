/-! PILES, PATHS, ROUTES of the class -/
theorem X_top {d k pc : Nat} {j : MI} {ls : List (Option Value)} {st : List Value} {σ : Wd} {Q : List Value → Wd → Prop} {x y : Int32} (h : x = y) (kk : X d k j pc ls (.int y :: st) σ Q) : X d k j pc ls (.int x :: st) σ Q := by
  subst h; exact kk
theorem dec_f {A B : Prop} [Decidable A] [Decidable B] (h : ¬ (A ∧ B)) : (decide A && decide B) = false := by
  by_cases ha : A
  · rw [decide_eq_false (fun hb => h ⟨ha, hb⟩)]; simp
  · rw [decide_eq_false ha]; rfl
theorem dec_t {A B : Prop} [Decidable A] [Decidable B] (h : A ∧ B) : (decide A && decide B) = true := by rw [decide_eq_true h.1, decide_eq_true h.2]; rfl
theorem st_0 {α : Type} {a v : α} {l : List α} : (a :: l).set 0 v = v :: l := rfl
theorem st_s {α : Type} {a v : α} {l l' : List α} {i : Nat} (h : l.set i v = l') : (a :: l).set (i + 1) v = a :: l' := by subst h; rfl
theorem ii1 (i : Nat) : nI i + Int32.ofInt 1 = nI (i + 1) := nI_1 i
theorem iim1 (i : Nat) : nI (i + 1) + Int32.ofInt (-1) = nI i := by
  have h := pk_m1 i
  exact h
def isPl (p : Nat) : Prop := p = 96 ∨ p = 98 ∨ p = 92 ∨ p = 100
theorem isPl.facts {p : Nat} (h : isPl p) : p < 138 ∧ (lay p).1 = 2 ∧ P0 p 0 = some (p + 1) ∧ p + 1 < 138 ∧ (lay (p + 1)).1 = 8 ∧ (lay (p + 1)).2 < 200 := by
  rcases h with rfl | rfl | rfl | rfl <;> decide
def isPa (p : Nat) : Prop := p = 92 ∨ p = 100
theorem isPa.pl {p : Nat} (h : isPa p) : isPl p := by
  rcases h with rfl | rfl
  · exact Or.inr (Or.inr (Or.inl rfl))
  · exact Or.inr (Or.inr (Or.inr rfl))
theorem isPa.facts {p : Nat} (h : isPa p) : p < 138 ∧ (lay p).1 = 2 ∧ P0 p 0 = some (p + 1) ∧ p + 1 < 138 ∧ (lay (p + 1)).1 = 8 ∧ (lay (p + 1)).2 = 4 := by
  rcases h with rfl | rfl <;> decide
theorem dX2_isFull_0 : decode cX2_isFull 0 = .ok (.aload_n 0, 1) := by decide +kernel
theorem dX2_isFull_1 : decode cX2_isFull 1 = .ok (.getfield 21, 3) := by decide +kernel
theorem dX2_isFull_4 : decode cX2_isFull 4 = .ok (.aload_n 0, 1) := by decide +kernel
theorem dX2_isFull_5 : decode cX2_isFull 5 = .ok (.getfield 15, 3) := by decide +kernel
theorem dX2_isFull_8 : decode cX2_isFull 8 = .ok (.arraylength, 1) := by decide +kernel
theorem dX2_isFull_9 : decode cX2_isFull 9 = .ok (.if_icmp .lt 7, 3) := by decide +kernel
theorem dX2_isFull_12 : decode cX2_isFull 12 = .ok (.iconst 1, 1) := by decide +kernel
theorem dX2_isFull_13 : decode cX2_isFull 13 = .ok (.goto 4, 3) := by decide +kernel
theorem dX2_isFull_16 : decode cX2_isFull 16 = .ok (.iconst 0, 1) := by decide +kernel
theorem dX2_isFull_17 : decode cX2_isFull 17 = .ok (.ireturn, 1) := by decide +kernel
theorem sp_X2_isFull {p : Nat} {l : List Nat} {D : Mem} (hp : isPl p) (h : PIL D p l) : Ei 1 j_X2_isFull [.ref p] D (b2i (decide ((lay (p + 1)).2 ≤ l.length))) (D) := by
  obtain ⟨q1, q2, q3, q4, q5, q6⟩ := hp.facts
  have hb := h.1
  refine E.start 0 (ls := [some (.ref p)]) (by decide +kernel) (Nat.le_of_ble_eq_true rfl) rfl (Nat.le_refl _) (Nat.le_refl _) ?_
  refine X_aload_n (nx := 1) dX2_isFull_0 rfl rfl rfl ?_
  refine M_getI (nx := 4) dX2_isFull_1 rfl fl_RX2_21 rfl (by first | assumption | rfl | decide | omega) (by first | assumption | rfl | decide | omega) ?_
  refine X_top (h.2.1) ?_
  refine X_aload_n (nx := 5) dX2_isFull_4 rfl rfl rfl ?_
  refine M_getP (nx := 8) dX2_isFull_5 rfl fl_RX2_15 rfl (by first | assumption | rfl | decide | omega) (by first | assumption | rfl | decide | omega) (by first | assumption | rfl | decide | omega) ?_
  refine M_alen (nx := 9) dX2_isFull_8 rfl (by first | assumption | rfl | decide | omega) (Or.inl (by first | assumption | rfl | decide | omega)) ?_
  refine X_icmp_lt (tgt := 16) (nx := 12) dX2_isFull_9 rfl rfl (fun h9 => ?_) (fun h9 => ?_)
  · skip
    rw [nI_ltI (by omega) (by omega)] at h9
    refine X_iconst (v := 0) (nx := 17) dX2_isFull_16 rfl rfl ?_
    exact Y_reti dX2_isFull_17 (Or.inr ⟨rfl, by first | exact Or.inl rfl | exact Or.inr rfl | exact b2i_01 _ | assumption⟩) (by first | exact cl_t (by omega) | exact cl_f (by omega)) rfl
  · skip
    rw [nI_ltI (by omega) (by omega)] at h9
    refine X_iconst (v := 1) (nx := 13) dX2_isFull_12 rfl rfl ?_
    refine X_goto (tgt := 17) dX2_isFull_13 rfl ?_
    exact Y_reti dX2_isFull_17 (Or.inr ⟨rfl, by first | exact Or.inl rfl | exact Or.inr rfl | exact b2i_01 _ | assumption⟩) (by first | exact cl_t (by omega) | exact cl_f (by omega)) rfl
theorem dX2_add_0 : decode cX2_add 0 = .ok (.aload_n 0, 1) := by decide +kernel
theorem dX2_add_1 : decode cX2_add 1 = .ok (.invokevirtual 25, 3) := by decide +kernel
theorem dX2_add_4 : decode cX2_add 4 = .ok (.ifCond .ne 25, 3) := by decide +kernel
theorem dX2_add_7 : decode cX2_add 7 = .ok (.aload_n 0, 1) := by decide +kernel
theorem dX2_add_8 : decode cX2_add 8 = .ok (.getfield 15, 3) := by decide +kernel
theorem dX2_add_11 : decode cX2_add 11 = .ok (.aload_n 0, 1) := by decide +kernel
theorem dX2_add_12 : decode cX2_add 12 = .ok (.getfield 21, 3) := by decide +kernel
theorem dX2_add_15 : decode cX2_add 15 = .ok (.iload_n 1, 1) := by decide +kernel
theorem dX2_add_16 : decode cX2_add 16 = .ok (.invokestatic 29, 3) := by decide +kernel
theorem dX2_add_19 : decode cX2_add 19 = .ok (.aload_n 0, 1) := by decide +kernel
theorem dX2_add_20 : decode cX2_add 20 = .ok (.dup, 1) := by decide +kernel
theorem dX2_add_21 : decode cX2_add 21 = .ok (.getfield 21, 3) := by decide +kernel
theorem dX2_add_24 : decode cX2_add 24 = .ok (.iconst 1, 1) := by decide +kernel
theorem dX2_add_25 : decode cX2_add 25 = .ok (.iadd, 1) := by decide +kernel
theorem dX2_add_26 : decode cX2_add 26 = .ok (.putfield 21, 3) := by decide +kernel
theorem dX2_add_29 : decode cX2_add 29 = .ok (.return_, 1) := by decide +kernel
theorem sp_X2_add {p : Nat} {l : List Nat} {v : Int32} {D : Mem} (hp : isPl p) (h : PIL D p l) (hl : l.length < (lay (p + 1)).2) : Ev 2 j_X2_add [.ref p, .int v] D (up2 (up2 D (p + 1) l.length v) p 1 (nI (l.length + 1))) := by
  obtain ⟨q1, q2, q3, q4, q5, q6⟩ := hp.facts
  refine E.start 0 (ls := [some (.ref p), some (.int v)]) (by decide +kernel) (Nat.le_of_ble_eq_true rfl) rfl (Nat.le_refl _) (Nat.le_refl _) ?_
  refine X_aload_n (nx := 1) dX2_add_0 rfl rfl rfl ?_
  refine Y_Vi0 (nx := 4) dX2_add_1 rfl ml_RX2_25 kj_X2_isFull kv_X2_isFull (sp_X2_isFull hp h) (by first | assumption | rfl | decide | omega) (by first | assumption | rfl | decide | omega) (by decide) rfl (by first | decide | omega) (by exact Nat.le_of_ble_eq_true rfl) ?_
  refine X_if_ne (tgt := 29) (nx := 7) dX2_add_4 rfl rfl (fun h4 => ?_) (fun h4 => ?_)
  · exact absurd h4 (fun q => q (by rw [decide_eq_false (by omega)]; rfl))
  · skip
    refine X_aload_n (nx := 8) dX2_add_7 rfl rfl rfl ?_
    refine M_getP (nx := 11) dX2_add_8 rfl fl_RX2_15 rfl (by first | assumption | rfl | decide | omega) (by first | assumption | rfl | decide | omega) (by first | assumption | rfl | decide | omega) ?_
    refine X_aload_n (nx := 12) dX2_add_11 rfl rfl rfl ?_
    refine M_getI (nx := 15) dX2_add_12 rfl fl_RX2_21 rfl (by first | assumption | rfl | decide | omega) (by first | assumption | rfl | decide | omega) ?_
    refine X_top (h.2.1) ?_
    refine X_iload_n (nx := 16) dX2_add_15 rfl rfl rfl ?_
    refine Y_Sv3 (nx := 19) dX2_add_16 rfl ml_RX2_29 kj_X7_put ks_X7_put (sp_X7_put (i := l.length) (by assumption) (by assumption) rfl (by omega)) (by first | decide | omega) (by exact Nat.le_of_ble_eq_true rfl) ?_
    refine X_aload_n (nx := 20) dX2_add_19 rfl rfl rfl ?_
    refine X_dup (nx := 21) dX2_add_20 rfl rfl ?_
    refine M_getI (nx := 24) dX2_add_21 rfl fl_RX2_21 rfl (by first | assumption | rfl | decide | omega) (by first | assumption | rfl | decide | omega) ?_
    refine X_top ((up2_other (by omega)).trans h.2.1) ?_
    refine X_iconst (v := 1) (nx := 25) dX2_add_24 rfl rfl ?_
    refine X_iadd (nx := 26) dX2_add_25 rfl ?_
    refine X_top (nI_1 _) ?_
    refine M_putI (nx := 29) dX2_add_26 rfl fl_RX2_21 rfl rfl (by first | assumption | rfl | decide | omega) (by first | assumption | rfl | decide | omega) ?_
    exact Y_retv dX2_add_29 rfl rfl
theorem dX2_at_0 : decode cX2_at 0 = .ok (.iload_n 1, 1) := by decide +kernel
theorem dX2_at_1 : decode cX2_at 1 = .ok (.ifCond .lt 24, 3) := by decide +kernel
theorem dX2_at_4 : decode cX2_at 4 = .ok (.iload_n 1, 1) := by decide +kernel
theorem dX2_at_5 : decode cX2_at 5 = .ok (.aload_n 0, 1) := by decide +kernel
theorem dX2_at_6 : decode cX2_at 6 = .ok (.getfield 21, 3) := by decide +kernel
theorem dX2_at_9 : decode cX2_at 9 = .ok (.if_icmp .ge 16, 3) := by decide +kernel
theorem dX2_at_12 : decode cX2_at 12 = .ok (.iload_n 1, 1) := by decide +kernel
theorem dX2_at_13 : decode cX2_at 13 = .ok (.aload_n 0, 1) := by decide +kernel
theorem dX2_at_14 : decode cX2_at 14 = .ok (.getfield 15, 3) := by decide +kernel
theorem dX2_at_17 : decode cX2_at 17 = .ok (.arraylength, 1) := by decide +kernel
theorem dX2_at_18 : decode cX2_at 18 = .ok (.if_icmp .ge 7, 3) := by decide +kernel
theorem dX2_at_21 : decode cX2_at 21 = .ok (.iconst 1, 1) := by decide +kernel
theorem dX2_at_22 : decode cX2_at 22 = .ok (.goto 4, 3) := by decide +kernel
theorem dX2_at_25 : decode cX2_at 25 = .ok (.iconst 0, 1) := by decide +kernel
theorem dX2_at_26 : decode cX2_at 26 = .ok (.istore_n 2, 1) := by decide +kernel
theorem dX2_at_27 : decode cX2_at 27 = .ok (.iload_n 2, 1) := by decide +kernel
theorem dX2_at_28 : decode cX2_at 28 = .ok (.ifCond .eq 12, 3) := by decide +kernel
theorem dX2_at_31 : decode cX2_at 31 = .ok (.aload_n 0, 1) := by decide +kernel
theorem dX2_at_32 : decode cX2_at 32 = .ok (.getfield 15, 3) := by decide +kernel
theorem dX2_at_35 : decode cX2_at 35 = .ok (.iload_n 1, 1) := by decide +kernel
theorem dX2_at_36 : decode cX2_at 36 = .ok (.iaload, 1) := by decide +kernel
theorem dX2_at_37 : decode cX2_at 37 = .ok (.goto 5, 3) := by decide +kernel
theorem dX2_at_40 : decode cX2_at 40 = .ok (.bipush (-9), 2) := by decide +kernel
theorem dX2_at_42 : decode cX2_at 42 = .ok (.ireturn, 1) := by decide +kernel
theorem sp_X2_at {p k : Nat} {l : List Nat} {x : Int32} {D : Mem} (hp : isPl p) (h : PIL D p l) (hx : x = nI k) (hk : k < l.length) : Ei 1 j_X2_at [.ref p, .int x] D (nI (l.getD k 0)) (D) := by
  refine E.start 1 (ls := [some (.ref p), some (.int x), none]) (by decide +kernel) (Nat.le_of_ble_eq_true rfl) rfl (Nat.le_refl _) (Nat.le_refl _) ?_
  subst hx
  obtain ⟨q1, q2, q3, q4, q5, q6⟩ := hp.facts
  have hb := h.1
  have hin : vp_in (nI k) (lay (p + 1)).2 := vp_in_nI (by omega) (by omega)
  refine X_iload_n (nx := 1) dX2_at_0 rfl rfl rfl ?_
  refine X_if_lt (tgt := 25) (nx := 4) dX2_at_1 rfl rfl (fun h1 => ?_) (fun h1 => ?_)
  · exact absurd h1 (nI_neg (by omega))
  · skip
    refine X_iload_n (nx := 5) dX2_at_4 rfl rfl rfl ?_
    refine X_aload_n (nx := 6) dX2_at_5 rfl rfl rfl ?_
    refine M_getI (nx := 9) dX2_at_6 rfl fl_RX2_21 rfl (by first | assumption | rfl | decide | omega) (by first | assumption | rfl | decide | omega) ?_
    refine X_top (h.2.1) ?_
    refine X_icmp_ge (tgt := 25) (nx := 12) dX2_at_9 rfl rfl (fun h9 => ?_) (fun h9 => ?_)
    · exact absurd h9 (nI_ge (by omega) (by omega))
    · skip
      refine X_iload_n (nx := 13) dX2_at_12 rfl rfl rfl ?_
      refine X_aload_n (nx := 14) dX2_at_13 rfl rfl rfl ?_
      refine M_getP (nx := 17) dX2_at_14 rfl fl_RX2_15 rfl (by first | assumption | rfl | decide | omega) (by first | assumption | rfl | decide | omega) (by first | assumption | rfl | decide | omega) ?_
      refine M_alen (nx := 18) dX2_at_17 rfl (by first | assumption | rfl | decide | omega) (Or.inl (by first | assumption | rfl | decide | omega)) ?_
      refine X_icmp_ge (tgt := 25) (nx := 21) dX2_at_18 rfl rfl (fun h18 => ?_) (fun h18 => ?_)
      · exact absurd h18 (nI_ge (by omega) (by omega))
      · skip
        refine X_iconst (v := 1) (nx := 22) dX2_at_21 rfl rfl ?_
        refine X_goto (tgt := 26) dX2_at_22 rfl ?_
        refine X_istore_n (i := 2) (nx := 27) dX2_at_26 rfl rfl (by decide) rfl (st_s (st_s (st_0))) ?_
        refine X_iload_n (nx := 28) dX2_at_27 rfl rfl rfl ?_
        refine X_if_eq (tgt := 40) (nx := 31) dX2_at_28 rfl rfl (fun h28 => ?_) (fun h28 => ?_)
        · exact absurd h28 (by decide)
        · skip
          refine X_aload_n (nx := 32) dX2_at_31 rfl rfl rfl ?_
          refine M_getP (nx := 35) dX2_at_32 rfl fl_RX2_15 rfl (by first | assumption | rfl | decide | omega) (by first | assumption | rfl | decide | omega) (by first | assumption | rfl | decide | omega) ?_
          refine X_iload_n (nx := 36) dX2_at_35 rfl rfl rfl ?_
          refine M_iald (nx := 37) dX2_at_36 rfl (by first | assumption | rfl | decide | omega) (by first | assumption | rfl | decide | omega) (by first | assumption | rfl | decide | omega) ?_
          refine X_top ((congrArg (D (p + 1)) (nI_clamp (by omega))).trans (h.2.2 k hk)) ?_
          refine X_goto (tgt := 42) dX2_at_37 rfl ?_
          exact Y_reti dX2_at_42 (Or.inl rfl) rfl rfl
theorem LET.pil {D : Mem} {p : Nat} {l : List Nat} (h : LET D p l) (hp : isPa p) : PIL D p l := ⟨by rw [hp.facts.2.2.2.2.2]; exact h.1, h.2.1, h.2.2.1⟩
theorem dX4_segmentAt_0 : decode cX4_segmentAt 0 = .ok (.iload_n 1, 1) := by decide +kernel
theorem dX4_segmentAt_1 : decode cX4_segmentAt 1 = .ok (.ifCond .lt 24, 3) := by decide +kernel
theorem dX4_segmentAt_4 : decode cX4_segmentAt 4 = .ok (.iload_n 1, 1) := by decide +kernel
theorem dX4_segmentAt_5 : decode cX4_segmentAt 5 = .ok (.aload_n 0, 1) := by decide +kernel
theorem dX4_segmentAt_6 : decode cX4_segmentAt 6 = .ok (.getfield 26, 3) := by decide +kernel
theorem dX4_segmentAt_9 : decode cX4_segmentAt 9 = .ok (.if_icmp .ge 16, 3) := by decide +kernel
theorem dX4_segmentAt_12 : decode cX4_segmentAt 12 = .ok (.iload_n 1, 1) := by decide +kernel
theorem dX4_segmentAt_13 : decode cX4_segmentAt 13 = .ok (.aload_n 0, 1) := by decide +kernel
theorem dX4_segmentAt_14 : decode cX4_segmentAt 14 = .ok (.getfield 9, 3) := by decide +kernel
theorem dX4_segmentAt_17 : decode cX4_segmentAt 17 = .ok (.arraylength, 1) := by decide +kernel
theorem dX4_segmentAt_18 : decode cX4_segmentAt 18 = .ok (.if_icmp .ge 7, 3) := by decide +kernel
theorem dX4_segmentAt_21 : decode cX4_segmentAt 21 = .ok (.iconst 1, 1) := by decide +kernel
theorem dX4_segmentAt_22 : decode cX4_segmentAt 22 = .ok (.goto 4, 3) := by decide +kernel
theorem dX4_segmentAt_25 : decode cX4_segmentAt 25 = .ok (.iconst 0, 1) := by decide +kernel
theorem dX4_segmentAt_26 : decode cX4_segmentAt 26 = .ok (.istore_n 2, 1) := by decide +kernel
theorem dX4_segmentAt_27 : decode cX4_segmentAt 27 = .ok (.iload_n 2, 1) := by decide +kernel
theorem dX4_segmentAt_28 : decode cX4_segmentAt 28 = .ok (.ifCond .eq 12, 3) := by decide +kernel
theorem dX4_segmentAt_31 : decode cX4_segmentAt 31 = .ok (.aload_n 0, 1) := by decide +kernel
theorem dX4_segmentAt_32 : decode cX4_segmentAt 32 = .ok (.getfield 9, 3) := by decide +kernel
theorem dX4_segmentAt_35 : decode cX4_segmentAt 35 = .ok (.iload_n 1, 1) := by decide +kernel
theorem dX4_segmentAt_36 : decode cX4_segmentAt 36 = .ok (.iaload, 1) := by decide +kernel
theorem dX4_segmentAt_37 : decode cX4_segmentAt 37 = .ok (.goto 5, 3) := by decide +kernel
theorem dX4_segmentAt_40 : decode cX4_segmentAt 40 = .ok (.bipush (-9), 2) := by decide +kernel
theorem dX4_segmentAt_42 : decode cX4_segmentAt 42 = .ok (.ireturn, 1) := by decide +kernel
theorem sp_X4_segmentAt {r k : Nat} {l : List Nat} {x : Int32} {D : Mem} (hr : isR r) (h : SEG D r l) (hx : x = nI k) (hk : k < l.length) : Ei 1 j_X4_segmentAt [.ref r, .int x] D (nI (l.getD k 0)) (D) := by
  refine E.start 1 (ls := [some (.ref r), some (.int x), none]) (by decide +kernel) (Nat.le_of_ble_eq_true rfl) rfl (Nat.le_refl _) (Nat.le_refl _) ?_
  subst hx
  obtain ⟨q1, q2, q3, q4, q5, q6⟩ := hr.facts
  have hb := h.1
  have hin : vp_in (nI k) (lay (r + 1)).2 := vp_in_nI (by omega) (by omega)
  refine X_iload_n (nx := 1) dX4_segmentAt_0 rfl rfl rfl ?_
  refine X_if_lt (tgt := 25) (nx := 4) dX4_segmentAt_1 rfl rfl (fun h1 => ?_) (fun h1 => ?_)
  · exact absurd h1 (nI_neg (by omega))
  · skip
    refine X_iload_n (nx := 5) dX4_segmentAt_4 rfl rfl rfl ?_
    refine X_aload_n (nx := 6) dX4_segmentAt_5 rfl rfl rfl ?_
    refine M_getI (nx := 9) dX4_segmentAt_6 rfl fl_RX4_26 rfl (by first | assumption | rfl | decide | omega) (by first | assumption | rfl | decide | omega) ?_
    refine X_top (h.2.1) ?_
    refine X_icmp_ge (tgt := 25) (nx := 12) dX4_segmentAt_9 rfl rfl (fun h9 => ?_) (fun h9 => ?_)
    · exact absurd h9 (nI_ge (by omega) (by omega))
    · skip
      refine X_iload_n (nx := 13) dX4_segmentAt_12 rfl rfl rfl ?_
      refine X_aload_n (nx := 14) dX4_segmentAt_13 rfl rfl rfl ?_
      refine M_getP (nx := 17) dX4_segmentAt_14 rfl fl_RX4_9 rfl (by first | assumption | rfl | decide | omega) (by first | assumption | rfl | decide | omega) (by first | assumption | rfl | decide | omega) ?_
      refine M_alen (nx := 18) dX4_segmentAt_17 rfl (by first | assumption | rfl | decide | omega) (Or.inl (by first | assumption | rfl | decide | omega)) ?_
      refine X_icmp_ge (tgt := 25) (nx := 21) dX4_segmentAt_18 rfl rfl (fun h18 => ?_) (fun h18 => ?_)
      · exact absurd h18 (nI_ge (by omega) (by omega))
      · skip
        refine X_iconst (v := 1) (nx := 22) dX4_segmentAt_21 rfl rfl ?_
        refine X_goto (tgt := 26) dX4_segmentAt_22 rfl ?_
        refine X_istore_n (i := 2) (nx := 27) dX4_segmentAt_26 rfl rfl (by decide) rfl (st_s (st_s (st_0))) ?_
        refine X_iload_n (nx := 28) dX4_segmentAt_27 rfl rfl rfl ?_
        refine X_if_eq (tgt := 40) (nx := 31) dX4_segmentAt_28 rfl rfl (fun h28 => ?_) (fun h28 => ?_)
        · exact absurd h28 (by decide)
        · skip
          refine X_aload_n (nx := 32) dX4_segmentAt_31 rfl rfl rfl ?_
          refine M_getP (nx := 35) dX4_segmentAt_32 rfl fl_RX4_9 rfl (by first | assumption | rfl | decide | omega) (by first | assumption | rfl | decide | omega) (by first | assumption | rfl | decide | omega) ?_
          refine X_iload_n (nx := 36) dX4_segmentAt_35 rfl rfl rfl ?_
          refine M_iald (nx := 37) dX4_segmentAt_36 rfl (by first | assumption | rfl | decide | omega) (by first | assumption | rfl | decide | omega) (by first | assumption | rfl | decide | omega) ?_
          refine X_top ((congrArg (D (r + 1)) (nI_clamp (by omega))).trans (h.2.2.2.1 k hk)) ?_
          refine X_goto (tgt := 42) dX4_segmentAt_37 rfl ?_
          exact Y_reti dX4_segmentAt_42 (Or.inl rfl) rfl rfl
theorem dX4_isMount_0 : decode cX4_isMount 0 = .ok (.aload_n 0, 1) := by decide +kernel
theorem dX4_isMount_1 : decode cX4_isMount 1 = .ok (.getfield 19, 3) := by decide +kernel
theorem dX4_isMount_4 : decode cX4_isMount 4 = .ok (.ifCond .lt 7, 3) := by decide +kernel
theorem dX4_isMount_7 : decode cX4_isMount 7 = .ok (.iconst 1, 1) := by decide +kernel
theorem dX4_isMount_8 : decode cX4_isMount 8 = .ok (.goto 4, 3) := by decide +kernel
theorem dX4_isMount_11 : decode cX4_isMount 11 = .ok (.iconst 0, 1) := by decide +kernel
theorem dX4_isMount_12 : decode cX4_isMount 12 = .ok (.ireturn, 1) := by decide +kernel
theorem sp_X4_isMount {r : Nat} {D : Mem} (hr : isR r) : Ei 1 j_X4_isMount [.ref r] D (b2i (decide (0 ≤ D r 5))) (D) := by
  obtain ⟨q1, q2, q3, q4, q5, q6⟩ := hr.facts
  refine E.start 0 (ls := [some (.ref r)]) (by decide +kernel) (Nat.le_of_ble_eq_true rfl) rfl (Nat.le_refl _) (Nat.le_refl _) ?_
  refine X_aload_n (nx := 1) dX4_isMount_0 rfl rfl rfl ?_
  refine M_getI (nx := 4) dX4_isMount_1 rfl fl_RX4_19 rfl (by first | assumption | rfl | decide | omega) (by first | assumption | rfl | decide | omega) ?_
  refine X_if_lt (tgt := 11) (nx := 7) dX4_isMount_4 rfl rfl (fun h4 => ?_) (fun h4 => ?_)
  · skip
    refine X_iconst (v := 0) (nx := 12) dX4_isMount_11 rfl rfl ?_
    exact Y_reti dX4_isMount_12 (Or.inr ⟨rfl, by first | exact Or.inl rfl | exact Or.inr rfl | exact b2i_01 _ | assumption⟩) (by first | exact cl_t (ge_of (by assumption)) | exact cl_f (Int32.not_le.mpr (by assumption))) rfl
  · skip
    refine X_iconst (v := 1) (nx := 8) dX4_isMount_7 rfl rfl ?_
    refine X_goto (tgt := 12) dX4_isMount_8 rfl ?_
    exact Y_reti dX4_isMount_12 (Or.inr ⟨rfl, by first | exact Or.inl rfl | exact Or.inr rfl | exact b2i_01 _ | assumption⟩) (by first | exact cl_t (ge_of (by assumption)) | exact cl_f (Int32.not_le.mpr (by assumption))) rfl
theorem dX4_hasRest_0 : decode cX4_hasRest 0 = .ok (.aload_n 0, 1) := by decide +kernel
theorem dX4_hasRest_1 : decode cX4_hasRest 1 = .ok (.getfield 29, 3) := by decide +kernel
theorem dX4_hasRest_4 : decode cX4_hasRest 4 = .ok (.aload_n 0, 1) := by decide +kernel
theorem dX4_hasRest_5 : decode cX4_hasRest 5 = .ok (.getfield 26, 3) := by decide +kernel
theorem dX4_hasRest_8 : decode cX4_hasRest 8 = .ok (.if_icmp .ge 7, 3) := by decide +kernel
theorem dX4_hasRest_11 : decode cX4_hasRest 11 = .ok (.iconst 1, 1) := by decide +kernel
theorem dX4_hasRest_12 : decode cX4_hasRest 12 = .ok (.goto 4, 3) := by decide +kernel
theorem dX4_hasRest_15 : decode cX4_hasRest 15 = .ok (.iconst 0, 1) := by decide +kernel
theorem dX4_hasRest_16 : decode cX4_hasRest 16 = .ok (.ireturn, 1) := by decide +kernel
theorem sp_X4_hasRest {r : Nat} {s : List Nat} {D : Mem} (hr : isR r) (h : SEG D r s) : Ei 1 j_X4_hasRest [.ref r] D (b2i (decide (pl s < s.length))) (D) := by
  obtain ⟨q1, q2, q3, q4, q5, q6⟩ := hr.facts
  have hb := h.1
  have hb2 := pl_le s
  refine E.start 0 (ls := [some (.ref r)]) (by decide +kernel) (Nat.le_of_ble_eq_true rfl) rfl (Nat.le_refl _) (Nat.le_refl _) ?_
  refine X_aload_n (nx := 1) dX4_hasRest_0 rfl rfl rfl ?_
  refine M_getI (nx := 4) dX4_hasRest_1 rfl fl_RX4_29 rfl (by first | assumption | rfl | decide | omega) (by first | assumption | rfl | decide | omega) ?_
  refine X_top (h.2.2.1) ?_
  refine X_aload_n (nx := 5) dX4_hasRest_4 rfl rfl rfl ?_
  refine M_getI (nx := 8) dX4_hasRest_5 rfl fl_RX4_26 rfl (by first | assumption | rfl | decide | omega) (by first | assumption | rfl | decide | omega) ?_
  refine X_top (h.2.1) ?_
  refine X_icmp_ge (tgt := 15) (nx := 11) dX4_hasRest_8 rfl rfl (fun h8 => ?_) (fun h8 => ?_)
  · skip
    rw [nI_leI (by omega) (by omega)] at h8
    refine X_iconst (v := 0) (nx := 16) dX4_hasRest_15 rfl rfl ?_
    exact Y_reti dX4_hasRest_16 (Or.inr ⟨rfl, by first | exact Or.inl rfl | exact Or.inr rfl | exact b2i_01 _ | assumption⟩) (by first | exact cl_t (by omega) | exact cl_f (by omega)) rfl
  · skip
    rw [nI_leI (by omega) (by omega)] at h8
    refine X_iconst (v := 1) (nx := 12) dX4_hasRest_11 rfl rfl ?_
    refine X_goto (tgt := 16) dX4_hasRest_12 rfl ?_
    exact Y_reti dX4_hasRest_16 (Or.inr ⟨rfl, by first | exact Or.inl rfl | exact Or.inr rfl | exact b2i_01 _ | assumption⟩) (by first | exact cl_t (by omega) | exact cl_f (by omega)) rfl
theorem dX4_isFull_0 : decode cX4_isFull 0 = .ok (.aload_n 0, 1) := by decide +kernel
theorem dX4_isFull_1 : decode cX4_isFull 1 = .ok (.getfield 26, 3) := by decide +kernel
theorem dX4_isFull_4 : decode cX4_isFull 4 = .ok (.aload_n 0, 1) := by decide +kernel
theorem dX4_isFull_5 : decode cX4_isFull 5 = .ok (.getfield 9, 3) := by decide +kernel
theorem dX4_isFull_8 : decode cX4_isFull 8 = .ok (.arraylength, 1) := by decide +kernel
theorem dX4_isFull_9 : decode cX4_isFull 9 = .ok (.if_icmp .lt 7, 3) := by decide +kernel
theorem dX4_isFull_12 : decode cX4_isFull 12 = .ok (.iconst 1, 1) := by decide +kernel
theorem dX4_isFull_13 : decode cX4_isFull 13 = .ok (.goto 4, 3) := by decide +kernel
theorem dX4_isFull_16 : decode cX4_isFull 16 = .ok (.iconst 0, 1) := by decide +kernel
theorem dX4_isFull_17 : decode cX4_isFull 17 = .ok (.ireturn, 1) := by decide +kernel
theorem sp_X4_isFull {r : Nat} {s : List Nat} {D : Mem} (hr : isR r) (h : SEG D r s) : Ei 1 j_X4_isFull [.ref r] D (b2i (decide (4 ≤ s.length))) (D) := by
  obtain ⟨q1, q2, q3, q4, q5, q6⟩ := hr.facts
  have hb := h.1
  refine E.start 0 (ls := [some (.ref r)]) (by decide +kernel) (Nat.le_of_ble_eq_true rfl) rfl (Nat.le_refl _) (Nat.le_refl _) ?_
  refine X_aload_n (nx := 1) dX4_isFull_0 rfl rfl rfl ?_
  refine M_getI (nx := 4) dX4_isFull_1 rfl fl_RX4_26 rfl (by first | assumption | rfl | decide | omega) (by first | assumption | rfl | decide | omega) ?_
  refine X_top (h.2.1) ?_
  refine X_aload_n (nx := 5) dX4_isFull_4 rfl rfl rfl ?_
  refine M_getP (nx := 8) dX4_isFull_5 rfl fl_RX4_9 rfl (by first | assumption | rfl | decide | omega) (by first | assumption | rfl | decide | omega) (by first | assumption | rfl | decide | omega) ?_
  refine M_alen (nx := 9) dX4_isFull_8 rfl (by first | assumption | rfl | decide | omega) (Or.inl (by first | assumption | rfl | decide | omega)) ?_
  refine X_icmp_lt (tgt := 16) (nx := 12) dX4_isFull_9 rfl rfl (fun h9 => ?_) (fun h9 => ?_)
  · skip
    rw [q6, nI_ltI (by omega) (by omega)] at h9
    refine X_iconst (v := 0) (nx := 17) dX4_isFull_16 rfl rfl ?_
    exact Y_reti dX4_isFull_17 (Or.inr ⟨rfl, by first | exact Or.inl rfl | exact Or.inr rfl | exact b2i_01 _ | assumption⟩) (by first | exact cl_t (by omega) | exact cl_f (by omega)) rfl
  · skip
    rw [q6, nI_ltI (by omega) (by omega)] at h9
    refine X_iconst (v := 1) (nx := 13) dX4_isFull_12 rfl rfl ?_
    refine X_goto (tgt := 17) dX4_isFull_13 rfl ?_
    exact Y_reti dX4_isFull_17 (Or.inr ⟨rfl, by first | exact Or.inl rfl | exact Or.inr rfl | exact b2i_01 _ | assumption⟩) (by first | exact cl_t (by omega) | exact cl_f (by omega)) rfl
theorem dX4_empty_0 : decode cX4_empty 0 = .ok (.aload_n 0, 1) := by decide +kernel
theorem dX4_empty_1 : decode cX4_empty 1 = .ok (.iconst 0, 1) := by decide +kernel
theorem dX4_empty_2 : decode cX4_empty 2 = .ok (.putfield 26, 3) := by decide +kernel
theorem dX4_empty_5 : decode cX4_empty 5 = .ok (.aload_n 0, 1) := by decide +kernel
theorem dX4_empty_6 : decode cX4_empty 6 = .ok (.iconst 0, 1) := by decide +kernel
theorem dX4_empty_7 : decode cX4_empty 7 = .ok (.putfield 29, 3) := by decide +kernel
theorem dX4_empty_10 : decode cX4_empty 10 = .ok (.return_, 1) := by decide +kernel
theorem sp_X4_empty {r : Nat} {D : Mem} (hr : isR r) : Ev 1 j_X4_empty [.ref r] D (up2 (up2 D r 1 0) r 2 0) := by
  obtain ⟨q1, q2, q3, q4, q5, q6⟩ := hr.facts
  refine E.start 0 (ls := [some (.ref r)]) (by decide +kernel) (Nat.le_of_ble_eq_true rfl) rfl (Nat.le_refl _) (Nat.le_refl _) ?_
  refine X_aload_n (nx := 1) dX4_empty_0 rfl rfl rfl ?_
  refine X_iconst (v := 0) (nx := 2) dX4_empty_1 rfl rfl ?_
  refine M_putI (nx := 5) dX4_empty_2 rfl fl_RX4_26 rfl rfl (by first | assumption | rfl | decide | omega) (by first | assumption | rfl | decide | omega) ?_
  refine X_aload_n (nx := 6) dX4_empty_5 rfl rfl rfl ?_
  refine X_iconst (v := 0) (nx := 7) dX4_empty_6 rfl rfl ?_
  refine M_putI (nx := 10) dX4_empty_7 rfl fl_RX4_29 rfl rfl (by first | assumption | rfl | decide | omega) (by first | assumption | rfl | decide | omega) ?_
  exact Y_retv dX4_empty_10 rfl rfl
theorem dX4_add_0 : decode cX4_add 0 = .ok (.aload_n 0, 1) := by decide +kernel
theorem dX4_add_1 : decode cX4_add 1 = .ok (.invokevirtual 39, 3) := by decide +kernel
theorem dX4_add_4 : decode cX4_add 4 = .ok (.ifCond .ne 45, 3) := by decide +kernel
theorem dX4_add_7 : decode cX4_add 7 = .ok (.aload_n 0, 1) := by decide +kernel
theorem dX4_add_8 : decode cX4_add 8 = .ok (.getfield 9, 3) := by decide +kernel
theorem dX4_add_11 : decode cX4_add 11 = .ok (.aload_n 0, 1) := by decide +kernel
theorem dX4_add_12 : decode cX4_add 12 = .ok (.getfield 26, 3) := by decide +kernel
theorem dX4_add_15 : decode cX4_add 15 = .ok (.iload_n 1, 1) := by decide +kernel
theorem dX4_add_16 : decode cX4_add 16 = .ok (.invokestatic 43, 3) := by decide +kernel
theorem dX4_add_19 : decode cX4_add 19 = .ok (.aload_n 0, 1) := by decide +kernel
theorem dX4_add_20 : decode cX4_add 20 = .ok (.dup, 1) := by decide +kernel
theorem dX4_add_21 : decode cX4_add 21 = .ok (.getfield 26, 3) := by decide +kernel
theorem dX4_add_24 : decode cX4_add 24 = .ok (.iconst 1, 1) := by decide +kernel
theorem dX4_add_25 : decode cX4_add 25 = .ok (.iadd, 1) := by decide +kernel
theorem dX4_add_26 : decode cX4_add 26 = .ok (.putfield 26, 3) := by decide +kernel
theorem dX4_add_29 : decode cX4_add 29 = .ok (.aload_n 0, 1) := by decide +kernel
theorem dX4_add_30 : decode cX4_add 30 = .ok (.dup, 1) := by decide +kernel
theorem dX4_add_31 : decode cX4_add 31 = .ok (.getfield 29, 3) := by decide +kernel
theorem dX4_add_34 : decode cX4_add 34 = .ok (.iload_n 1, 1) := by decide +kernel
theorem dX4_add_35 : decode cX4_add 35 = .ok (.bipush 40, 2) := by decide +kernel
theorem dX4_add_37 : decode cX4_add 37 = .ok (.if_icmp .ne 7, 3) := by decide +kernel
theorem dX4_add_40 : decode cX4_add 40 = .ok (.iconst 0, 1) := by decide +kernel
theorem dX4_add_41 : decode cX4_add 41 = .ok (.goto 4, 3) := by decide +kernel
theorem dX4_add_44 : decode cX4_add 44 = .ok (.iconst 1, 1) := by decide +kernel
theorem dX4_add_45 : decode cX4_add 45 = .ok (.iadd, 1) := by decide +kernel
theorem dX4_add_46 : decode cX4_add 46 = .ok (.putfield 29, 3) := by decide +kernel
theorem dX4_add_49 : decode cX4_add 49 = .ok (.return_, 1) := by decide +kernel
theorem sp_X4_add {r : Nat} {s : List Nat} {v : Int32} {D : Mem} (hr : isR r) (h : SEG D r s) (hl : s.length < 4) : Ev 2 j_X4_add [.ref r, .int v] D (up2 (up2 (up2 D (r + 1) s.length v) r 1 (nI (s.length + 1))) r 2 (if v = 40 then nI (pl s) else nI (pl s + 1))) := by
  obtain ⟨q1, q2, q3, q4, q5, q6⟩ := hr.facts
  refine E.start 0 (ls := [some (.ref r), some (.int v)]) (by decide +kernel) (Nat.le_of_ble_eq_true rfl) rfl (Nat.le_refl _) (Nat.le_refl _) ?_
  refine X_aload_n (nx := 1) dX4_add_0 rfl rfl rfl ?_
  refine Y_Vi0 (nx := 4) dX4_add_1 rfl ml_RX4_39 kj_X4_isFull kv_X4_isFull (sp_X4_isFull hr h) (by first | assumption | rfl | decide | omega) (by first | assumption | rfl | decide | omega) (by decide) rfl (by first | decide | omega) (by exact Nat.le_of_ble_eq_true rfl) ?_
  refine X_if_ne (tgt := 49) (nx := 7) dX4_add_4 rfl rfl (fun h4 => ?_) (fun h4 => ?_)
  · exact absurd h4 (fun q => q (by rw [decide_eq_false (by omega)]; rfl))
  · skip
    refine X_aload_n (nx := 8) dX4_add_7 rfl rfl rfl ?_
    refine M_getP (nx := 11) dX4_add_8 rfl fl_RX4_9 rfl (by first | assumption | rfl | decide | omega) (by first | assumption | rfl | decide | omega) (by first | assumption | rfl | decide | omega) ?_
    refine X_aload_n (nx := 12) dX4_add_11 rfl rfl rfl ?_
    refine M_getI (nx := 15) dX4_add_12 rfl fl_RX4_26 rfl (by first | assumption | rfl | decide | omega) (by first | assumption | rfl | decide | omega) ?_
    refine X_top (h.2.1) ?_
    refine X_iload_n (nx := 16) dX4_add_15 rfl rfl rfl ?_
    refine Y_Sv3 (nx := 19) dX4_add_16 rfl ml_RX4_43 kj_X7_put ks_X7_put (sp_X7_put (i := s.length) (by assumption) (by assumption) rfl (by omega)) (by first | decide | omega) (by exact Nat.le_of_ble_eq_true rfl) ?_
    refine X_aload_n (nx := 20) dX4_add_19 rfl rfl rfl ?_
    refine X_dup (nx := 21) dX4_add_20 rfl rfl ?_
    refine M_getI (nx := 24) dX4_add_21 rfl fl_RX4_26 rfl (by first | assumption | rfl | decide | omega) (by first | assumption | rfl | decide | omega) ?_
    refine X_top ((up2_other (by omega)).trans h.2.1) ?_
    refine X_iconst (v := 1) (nx := 25) dX4_add_24 rfl rfl ?_
    refine X_iadd (nx := 26) dX4_add_25 rfl ?_
    refine X_top (nI_1 _) ?_
    refine M_putI (nx := 29) dX4_add_26 rfl fl_RX4_26 rfl rfl (by first | assumption | rfl | decide | omega) (by first | assumption | rfl | decide | omega) ?_
    refine X_aload_n (nx := 30) dX4_add_29 rfl rfl rfl ?_
    refine X_dup (nx := 31) dX4_add_30 rfl rfl ?_
    refine M_getI (nx := 34) dX4_add_31 rfl fl_RX4_29 rfl (by first | assumption | rfl | decide | omega) (by first | assumption | rfl | decide | omega) ?_
    refine X_top (((up2_other (by omega)).trans (up2_other (by omega))).trans h.2.2.1) ?_
    refine X_iload_n (nx := 35) dX4_add_34 rfl rfl rfl ?_
    refine X_bipush (v := 40) (nx := 37) dX4_add_35 rfl rfl ?_
    refine X_icmp_ne (tgt := 44) (nx := 40) dX4_add_37 rfl rfl (fun h37 => ?_) (fun h37 => ?_)
    · skip
      refine X_iconst (v := 1) (nx := 45) dX4_add_44 rfl rfl ?_
      refine X_iadd (nx := 46) dX4_add_45 rfl ?_
      refine M_putI (nx := 49) dX4_add_46 rfl fl_RX4_29 rfl rfl (by first | assumption | rfl | decide | omega) (by first | assumption | rfl | decide | omega) ?_
      exact Y_retv dX4_add_49 rfl (by first | (rw [if_neg (by assumption), nI_1]; done) | (rw [if_pos (by assumption), Int32.add_zero]; done))
    · skip
      refine X_iconst (v := 0) (nx := 41) dX4_add_40 rfl rfl ?_
      refine X_goto (tgt := 45) dX4_add_41 rfl ?_
      refine X_iadd (nx := 46) dX4_add_45 rfl ?_
      refine M_putI (nx := 49) dX4_add_46 rfl fl_RX4_29 rfl rfl (by first | assumption | rfl | decide | omega) (by first | assumption | rfl | decide | omega) ?_
      exact Y_retv dX4_add_49 rfl (by first | (rw [if_neg (by assumption), nI_1]; done) | (rw [if_pos (by assumption), Int32.add_zero]; done))
/-- the place of the segment with a parameter -/
def plOf (s : List Nat) (p : Nat) (i n : Nat) : Option Nat := fst_ (fun k => decide (10 ≤ s.getD k 0) && decide (s.getD k 0 % 10 = p)) i n
theorem getD_le {s : List Nat} {k b : Nat} (h : ∀ x ∈ s, x ≤ b) : s.getD k 0 ≤ b := by
  rw [List.getD_eq_getElem?_getD]
  cases hk : s[k]? with
  | none => exact Nat.zero_le _
  | some y => exact h y (List.mem_of_getElem? hk)
theorem rem10 {n : Nat} (h : n < 2147483648) : nI n - nI n / 10 * 10 = nI (n % 10) := pk_rem (d := 10) h (by omega) (by omega)
theorem dX4_placeOf_0 : decode cX4_placeOf 0 = .ok (.iconst 0, 1) := by decide +kernel
theorem dX4_placeOf_1 : decode cX4_placeOf 1 = .ok (.istore_n 2, 1) := by decide +kernel
theorem dX4_placeOf_2 : decode cX4_placeOf 2 = .ok (.iload_n 2, 1) := by decide +kernel
theorem dX4_placeOf_3 : decode cX4_placeOf 3 = .ok (.aload_n 0, 1) := by decide +kernel
theorem dX4_placeOf_4 : decode cX4_placeOf 4 = .ok (.getfield 29, 3) := by decide +kernel
theorem dX4_placeOf_7 : decode cX4_placeOf 7 = .ok (.if_icmp .ge 31, 3) := by decide +kernel
theorem dX4_placeOf_10 : decode cX4_placeOf 10 = .ok (.aload_n 0, 1) := by decide +kernel
theorem dX4_placeOf_11 : decode cX4_placeOf 11 = .ok (.iload_n 2, 1) := by decide +kernel
theorem dX4_placeOf_12 : decode cX4_placeOf 12 = .ok (.invokevirtual 47, 3) := by decide +kernel
theorem dX4_placeOf_15 : decode cX4_placeOf 15 = .ok (.istore_n 3, 1) := by decide +kernel
theorem dX4_placeOf_16 : decode cX4_placeOf 16 = .ok (.iload_n 3, 1) := by decide +kernel
theorem dX4_placeOf_17 : decode cX4_placeOf 17 = .ok (.bipush 10, 2) := by decide +kernel
theorem dX4_placeOf_19 : decode cX4_placeOf 19 = .ok (.if_icmp .lt 13, 3) := by decide +kernel
theorem dX4_placeOf_22 : decode cX4_placeOf 22 = .ok (.iload_n 3, 1) := by decide +kernel
theorem dX4_placeOf_23 : decode cX4_placeOf 23 = .ok (.bipush 10, 2) := by decide +kernel
theorem dX4_placeOf_25 : decode cX4_placeOf 25 = .ok (.irem, 1) := by decide +kernel
theorem dX4_placeOf_26 : decode cX4_placeOf 26 = .ok (.iload_n 1, 1) := by decide +kernel
theorem dX4_placeOf_27 : decode cX4_placeOf 27 = .ok (.if_icmp .ne 5, 3) := by decide +kernel
theorem dX4_placeOf_30 : decode cX4_placeOf 30 = .ok (.iload_n 2, 1) := by decide +kernel
theorem dX4_placeOf_31 : decode cX4_placeOf 31 = .ok (.ireturn, 1) := by decide +kernel
theorem dX4_placeOf_32 : decode cX4_placeOf 32 = .ok (.iinc 2 1, 3) := by decide +kernel
theorem dX4_placeOf_35 : decode cX4_placeOf 35 = .ok (.goto (-33), 3) := by decide +kernel
theorem dX4_placeOf_38 : decode cX4_placeOf 38 = .ok (.bipush (-9), 2) := by decide +kernel
theorem dX4_placeOf_40 : decode cX4_placeOf 40 = .ok (.ireturn, 1) := by decide +kernel
theorem lp_X4_placeOf {r p : Nat} {s : List Nat} {D : Mem} (hr : isR r) (h : SEG D r s) (hp : p < 10) : ∀ (m : Nat) (i : Nat) (o : Option Value), i + m = pl s → X 2 138 j_X4_placeOf 2 [some (.ref r), some (.int (nI p)), some (.int (nI i)), o] [] (138, P0, D) (fun r σ => r = [.int (opI (plOf s p i m))] ∧ σ = wd D) := by
  intro m
  induction m with
  | zero =>
    intro i o hi
    obtain ⟨q1, q2, q3, q4, q5, q6⟩ := hr.facts
    have hb := h.1
    have hb2 := pl_le s
    refine X_iload_n (nx := 3) dX4_placeOf_2 rfl rfl rfl ?_
    refine X_aload_n (nx := 4) dX4_placeOf_3 rfl rfl rfl ?_
    refine M_getI (nx := 7) dX4_placeOf_4 rfl fl_RX4_29 rfl (by first | assumption | rfl | decide | omega) (by first | assumption | rfl | decide | omega) ?_
    refine X_top (h.2.2.1) ?_
    refine X_icmp_ge (tgt := 38) (nx := 10) dX4_placeOf_7 rfl rfl (fun h7 => ?_) (fun h7 => ?_)
    · skip
      refine X_bipush (v := -9) (nx := 40) dX4_placeOf_38 rfl rfl ?_
      exact Y_reti dX4_placeOf_40 (Or.inl rfl) rfl rfl
    · exact absurd h7 (fun q => q (nI_le (by omega) (by omega)))
  | succ m ih =>
    intro i o hi
    obtain ⟨q1, q2, q3, q4, q5, q6⟩ := hr.facts
    have hb := h.1
    have hb2 := pl_le s
    have hb3 : s.getD i 0 ≤ 40 := getD_le h.2.2.2.2
    refine X_iload_n (nx := 3) dX4_placeOf_2 rfl rfl rfl ?_
    refine X_aload_n (nx := 4) dX4_placeOf_3 rfl rfl rfl ?_
    refine M_getI (nx := 7) dX4_placeOf_4 rfl fl_RX4_29 rfl (by first | assumption | rfl | decide | omega) (by first | assumption | rfl | decide | omega) ?_
    refine X_top (h.2.2.1) ?_
    refine X_icmp_ge (tgt := 38) (nx := 10) dX4_placeOf_7 rfl rfl (fun h7 => ?_) (fun h7 => ?_)
    · exact absurd h7 (nI_ge (by omega) (by omega))
    · skip
      rw [nI_leI (by omega) (by omega)] at h7
      refine X_aload_n (nx := 11) dX4_placeOf_10 rfl rfl rfl ?_
      refine X_iload_n (nx := 12) dX4_placeOf_11 rfl rfl rfl ?_
      refine Y_Vi1 (nx := 15) dX4_placeOf_12 rfl ml_RX4_47 kj_X4_segmentAt kv_X4_segmentAt (sp_X4_segmentAt hr h rfl (by omega)) (by first | assumption | rfl | decide | omega) (by first | assumption | rfl | decide | omega) (by decide) rfl (by first | decide | omega) (by exact Nat.le_of_ble_eq_true rfl) ?_
      refine X_istore_n (i := 3) (nx := 16) dX4_placeOf_15 rfl rfl (by decide) rfl (st_s (st_s (st_s (st_0)))) ?_
      refine X_iload_n (nx := 17) dX4_placeOf_16 rfl rfl rfl ?_
      refine X_bipush (v := nI 10) (nx := 19) dX4_placeOf_17 rfl rfl ?_
      refine X_icmp_lt (tgt := 32) (nx := 22) dX4_placeOf_19 rfl rfl (fun h19 => ?_) (fun h19 => ?_)
      · skip
        rw [nI_ltI (by omega) (by omega)] at h19
        refine X_iinc (nx := 35) dX4_placeOf_32 rfl (by decide) rfl (by first | exact ii1 _ | rfl) rfl (st_s (st_s (st_0))) ?_
        refine X_goto (tgt := 2) dX4_placeOf_35 rfl ?_
        have hf : plOf s p i (m + 1) = plOf s p (i + 1) m := fst_step (dec_f (by omega))
        rw [hf]
        exact ih (i + 1) _ (by omega)
      · skip
        rw [nI_ltI (by omega) (by omega)] at h19
        refine X_iload_n (nx := 23) dX4_placeOf_22 rfl rfl rfl ?_
        refine X_bipush (v := 10) (nx := 25) dX4_placeOf_23 rfl rfl ?_
        refine X_irem (nx := 26) dX4_placeOf_25 rfl (by decide) ?_
        refine X_top (rem10 (by omega)) ?_
        refine X_iload_n (nx := 27) dX4_placeOf_26 rfl rfl rfl ?_
        refine X_icmp_ne (tgt := 32) (nx := 30) dX4_placeOf_27 rfl rfl (fun h27 => ?_) (fun h27 => ?_)
        · skip
          rw [nI_eq (by omega) (by omega)] at h27
          refine X_iinc (nx := 35) dX4_placeOf_32 rfl (by decide) rfl (by first | exact ii1 _ | rfl) rfl (st_s (st_s (st_0))) ?_
          refine X_goto (tgt := 2) dX4_placeOf_35 rfl ?_
          have hf : plOf s p i (m + 1) = plOf s p (i + 1) m := fst_step (dec_f (by omega))
          rw [hf]
          exact ih (i + 1) _ (by omega)
        · skip
          rw [nI_eq (by omega) (by omega)] at h27
          refine X_iload_n (nx := 31) dX4_placeOf_30 rfl rfl rfl ?_
          exact Y_reti dX4_placeOf_31 (Or.inl rfl) (by unfold plOf; rw [fst_hit (dec_t (by omega))]; rfl) rfl
theorem sp_X4_placeOf {r p : Nat} {s : List Nat} {x : Int32} {D : Mem} (hr : isR r) (h : SEG D r s) (hp : p < 10) (hx : x = nI p) : Ei 2 j_X4_placeOf [.ref r, .int x] D (opI (plOf s p 0 (pl s))) (D) := by
  refine E.start 2 (ls := [some (.ref r), some (.int x), none, none]) (by decide +kernel) (Nat.le_of_ble_eq_true rfl) rfl (Nat.le_refl _) (Nat.le_refl _) ?_
  subst hx
  refine X_iconst (v := 0) (nx := 1) dX4_placeOf_0 rfl rfl ?_
  refine X_istore_n (i := 2) (nx := 2) dX4_placeOf_1 rfl rfl (by decide) rfl (st_s (st_s (st_0))) ?_
  exact lp_X4_placeOf hr h hp (pl s) 0 _ (by omega)
