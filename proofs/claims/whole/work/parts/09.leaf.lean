/-! LEAVES OF THE CLASS: tests, arrays, piles, paths -/
theorem cl_t {p : Prop} [Decidable p] (h : p) : (1 : Int32) = b2i (decide p) := by rw [decide_eq_true h]; rfl
theorem cl_f {p : Prop} [Decidable p] (h : ¬ p) : (0 : Int32) = b2i (decide p) := by rw [decide_eq_false h]; rfl
theorem ge_of {x y : Int32} (h : ¬ x < y) : y ≤ x := Int32.not_lt.mp h
theorem lt_of {x y : Int32} (h : ¬ x ≤ y) : y < x := Int32.not_le.mp h
theorem vp_of {i : Int32} {n : Nat} (h0 : ¬ i < 0) (h1 : ¬ nI n ≤ i) (hn : n < 2147483648) : vp_in i n := by
  intro h
  rcases h with h | h
  · exact h0 h
  · obtain ⟨k, hk, rfl⟩ := nI_of h0
    rw [nI_clamp hk] at h
    exact h1 (nI_le h hk)
theorem nI_neg {n : Nat} (h : n < 2147483648) : ¬ nI n < 0 := nI_pos h
theorem lay_lt : (List.range 138).all (fun a => decide ((lay a).2 < 1000)) = true := by decide +kernel
theorem lay_small {a : Nat} (h : a < 138) : (lay a).2 < 1000 := of_decide_eq_true (List.all_eq_true.mp lay_lt a (List.mem_range.mpr h))
theorem dX7_isRouter_0 : decode cX7_isRouter 0 = .ok (.iload_n 0, 1) := by decide +kernel
theorem dX7_isRouter_1 : decode cX7_isRouter 1 = .ok (.ifCond .lt 12, 3) := by decide +kernel
theorem dX7_isRouter_4 : decode cX7_isRouter 4 = .ok (.iload_n 0, 1) := by decide +kernel
theorem dX7_isRouter_5 : decode cX7_isRouter 5 = .ok (.iconst 3, 1) := by decide +kernel
theorem dX7_isRouter_6 : decode cX7_isRouter 6 = .ok (.if_icmp .ge 7, 3) := by decide +kernel
theorem dX7_isRouter_9 : decode cX7_isRouter 9 = .ok (.iconst 1, 1) := by decide +kernel
theorem dX7_isRouter_10 : decode cX7_isRouter 10 = .ok (.goto 4, 3) := by decide +kernel
theorem dX7_isRouter_13 : decode cX7_isRouter 13 = .ok (.iconst 0, 1) := by decide +kernel
theorem dX7_isRouter_14 : decode cX7_isRouter 14 = .ok (.ireturn, 1) := by decide +kernel
theorem sp_X7_isRouter {x : Int32} {D : Mem} : Ei 1 j_X7_isRouter [.int x] D (b2i (decide (0 ≤ x ∧ x < 3))) (D) := by
  refine E.start 0 (ls := [some (.int x)]) (by decide +kernel) (Nat.le_of_ble_eq_true rfl) rfl (Nat.le_refl _) (Nat.le_refl _) ?_
  refine X_iload_n (nx := 1) dX7_isRouter_0 rfl rfl rfl ?_
  refine X_if_lt (tgt := 13) (nx := 4) dX7_isRouter_1 rfl rfl (fun h1 => ?_) (fun h1 => ?_)
  · skip
    refine X_iconst (v := 0) (nx := 14) dX7_isRouter_13 rfl rfl ?_
    exact Y_reti dX7_isRouter_14 (Or.inr ⟨rfl, by first | exact Or.inl rfl | exact Or.inr rfl | exact b2i_01 _ | assumption⟩) (by first | exact cl_t ⟨ge_of (by assumption), lt_of (by assumption)⟩ | exact cl_f (fun q => absurd q.1 (Int32.not_le.mpr (by assumption))) | exact cl_f (fun q => absurd q.2 (Int32.not_lt.mpr (by assumption)))) rfl
  · skip
    refine X_iload_n (nx := 5) dX7_isRouter_4 rfl rfl rfl ?_
    refine X_iconst (v := 3) (nx := 6) dX7_isRouter_5 rfl rfl ?_
    refine X_icmp_ge (tgt := 13) (nx := 9) dX7_isRouter_6 rfl rfl (fun h6 => ?_) (fun h6 => ?_)
    · skip
      refine X_iconst (v := 0) (nx := 14) dX7_isRouter_13 rfl rfl ?_
      exact Y_reti dX7_isRouter_14 (Or.inr ⟨rfl, by first | exact Or.inl rfl | exact Or.inr rfl | exact b2i_01 _ | assumption⟩) (by first | exact cl_t ⟨ge_of (by assumption), lt_of (by assumption)⟩ | exact cl_f (fun q => absurd q.1 (Int32.not_le.mpr (by assumption))) | exact cl_f (fun q => absurd q.2 (Int32.not_lt.mpr (by assumption)))) rfl
    · skip
      refine X_iconst (v := 1) (nx := 10) dX7_isRouter_9 rfl rfl ?_
      refine X_goto (tgt := 14) dX7_isRouter_10 rfl ?_
      exact Y_reti dX7_isRouter_14 (Or.inr ⟨rfl, by first | exact Or.inl rfl | exact Or.inr rfl | exact b2i_01 _ | assumption⟩) (by first | exact cl_t ⟨ge_of (by assumption), lt_of (by assumption)⟩ | exact cl_f (fun q => absurd q.1 (Int32.not_le.mpr (by assumption))) | exact cl_f (fun q => absurd q.2 (Int32.not_lt.mpr (by assumption)))) rfl
theorem dX7_isPath_0 : decode cX7_isPath 0 = .ok (.iload_n 0, 1) := by decide +kernel
theorem dX7_isPath_1 : decode cX7_isPath 1 = .ok (.ifCond .lt 14, 3) := by decide +kernel
theorem dX7_isPath_4 : decode cX7_isPath 4 = .ok (.iload_n 0, 1) := by decide +kernel
theorem dX7_isPath_5 : decode cX7_isPath 5 = .ok (.sipush 341, 3) := by decide +kernel
theorem dX7_isPath_8 : decode cX7_isPath 8 = .ok (.if_icmp .ge 7, 3) := by decide +kernel
theorem dX7_isPath_11 : decode cX7_isPath 11 = .ok (.iconst 1, 1) := by decide +kernel
theorem dX7_isPath_12 : decode cX7_isPath 12 = .ok (.goto 4, 3) := by decide +kernel
theorem dX7_isPath_15 : decode cX7_isPath 15 = .ok (.iconst 0, 1) := by decide +kernel
theorem dX7_isPath_16 : decode cX7_isPath 16 = .ok (.ireturn, 1) := by decide +kernel
theorem sp_X7_isPath {x : Int32} {D : Mem} : Ei 1 j_X7_isPath [.int x] D (b2i (decide (0 ≤ x ∧ x < 341))) (D) := by
  refine E.start 0 (ls := [some (.int x)]) (by decide +kernel) (Nat.le_of_ble_eq_true rfl) rfl (Nat.le_refl _) (Nat.le_refl _) ?_
  refine X_iload_n (nx := 1) dX7_isPath_0 rfl rfl rfl ?_
  refine X_if_lt (tgt := 15) (nx := 4) dX7_isPath_1 rfl rfl (fun h1 => ?_) (fun h1 => ?_)
  · skip
    refine X_iconst (v := 0) (nx := 16) dX7_isPath_15 rfl rfl ?_
    exact Y_reti dX7_isPath_16 (Or.inr ⟨rfl, by first | exact Or.inl rfl | exact Or.inr rfl | exact b2i_01 _ | assumption⟩) (by first | exact cl_t ⟨ge_of (by assumption), lt_of (by assumption)⟩ | exact cl_f (fun q => absurd q.1 (Int32.not_le.mpr (by assumption))) | exact cl_f (fun q => absurd q.2 (Int32.not_lt.mpr (by assumption)))) rfl
  · skip
    refine X_iload_n (nx := 5) dX7_isPath_4 rfl rfl rfl ?_
    refine X_sipush (v := 341) (nx := 8) dX7_isPath_5 rfl rfl ?_
    refine X_icmp_ge (tgt := 15) (nx := 11) dX7_isPath_8 rfl rfl (fun h8 => ?_) (fun h8 => ?_)
    · skip
      refine X_iconst (v := 0) (nx := 16) dX7_isPath_15 rfl rfl ?_
      exact Y_reti dX7_isPath_16 (Or.inr ⟨rfl, by first | exact Or.inl rfl | exact Or.inr rfl | exact b2i_01 _ | assumption⟩) (by first | exact cl_t ⟨ge_of (by assumption), lt_of (by assumption)⟩ | exact cl_f (fun q => absurd q.1 (Int32.not_le.mpr (by assumption))) | exact cl_f (fun q => absurd q.2 (Int32.not_lt.mpr (by assumption)))) rfl
    · skip
      refine X_iconst (v := 1) (nx := 12) dX7_isPath_11 rfl rfl ?_
      refine X_goto (tgt := 16) dX7_isPath_12 rfl ?_
      exact Y_reti dX7_isPath_16 (Or.inr ⟨rfl, by first | exact Or.inl rfl | exact Or.inr rfl | exact b2i_01 _ | assumption⟩) (by first | exact cl_t ⟨ge_of (by assumption), lt_of (by assumption)⟩ | exact cl_f (fun q => absurd q.1 (Int32.not_le.mpr (by assumption))) | exact cl_f (fun q => absurd q.2 (Int32.not_lt.mpr (by assumption)))) rfl
theorem dX7_isVerb_0 : decode cX7_isVerb 0 = .ok (.iload_n 0, 1) := by decide +kernel
theorem dX7_isVerb_1 : decode cX7_isVerb 1 = .ok (.ifCond .lt 12, 3) := by decide +kernel
theorem dX7_isVerb_4 : decode cX7_isVerb 4 = .ok (.iload_n 0, 1) := by decide +kernel
theorem dX7_isVerb_5 : decode cX7_isVerb 5 = .ok (.iconst 4, 1) := by decide +kernel
theorem dX7_isVerb_6 : decode cX7_isVerb 6 = .ok (.if_icmp .ge 7, 3) := by decide +kernel
theorem dX7_isVerb_9 : decode cX7_isVerb 9 = .ok (.iconst 1, 1) := by decide +kernel
theorem dX7_isVerb_10 : decode cX7_isVerb 10 = .ok (.goto 4, 3) := by decide +kernel
theorem dX7_isVerb_13 : decode cX7_isVerb 13 = .ok (.iconst 0, 1) := by decide +kernel
theorem dX7_isVerb_14 : decode cX7_isVerb 14 = .ok (.ireturn, 1) := by decide +kernel
theorem sp_X7_isVerb {x : Int32} {D : Mem} : Ei 1 j_X7_isVerb [.int x] D (b2i (decide (0 ≤ x ∧ x < 4))) (D) := by
  refine E.start 0 (ls := [some (.int x)]) (by decide +kernel) (Nat.le_of_ble_eq_true rfl) rfl (Nat.le_refl _) (Nat.le_refl _) ?_
  refine X_iload_n (nx := 1) dX7_isVerb_0 rfl rfl rfl ?_
  refine X_if_lt (tgt := 13) (nx := 4) dX7_isVerb_1 rfl rfl (fun h1 => ?_) (fun h1 => ?_)
  · skip
    refine X_iconst (v := 0) (nx := 14) dX7_isVerb_13 rfl rfl ?_
    exact Y_reti dX7_isVerb_14 (Or.inr ⟨rfl, by first | exact Or.inl rfl | exact Or.inr rfl | exact b2i_01 _ | assumption⟩) (by first | exact cl_t ⟨ge_of (by assumption), lt_of (by assumption)⟩ | exact cl_f (fun q => absurd q.1 (Int32.not_le.mpr (by assumption))) | exact cl_f (fun q => absurd q.2 (Int32.not_lt.mpr (by assumption)))) rfl
  · skip
    refine X_iload_n (nx := 5) dX7_isVerb_4 rfl rfl rfl ?_
    refine X_iconst (v := 4) (nx := 6) dX7_isVerb_5 rfl rfl ?_
    refine X_icmp_ge (tgt := 13) (nx := 9) dX7_isVerb_6 rfl rfl (fun h6 => ?_) (fun h6 => ?_)
    · skip
      refine X_iconst (v := 0) (nx := 14) dX7_isVerb_13 rfl rfl ?_
      exact Y_reti dX7_isVerb_14 (Or.inr ⟨rfl, by first | exact Or.inl rfl | exact Or.inr rfl | exact b2i_01 _ | assumption⟩) (by first | exact cl_t ⟨ge_of (by assumption), lt_of (by assumption)⟩ | exact cl_f (fun q => absurd q.1 (Int32.not_le.mpr (by assumption))) | exact cl_f (fun q => absurd q.2 (Int32.not_lt.mpr (by assumption)))) rfl
    · skip
      refine X_iconst (v := 1) (nx := 10) dX7_isVerb_9 rfl rfl ?_
      refine X_goto (tgt := 14) dX7_isVerb_10 rfl ?_
      exact Y_reti dX7_isVerb_14 (Or.inr ⟨rfl, by first | exact Or.inl rfl | exact Or.inr rfl | exact b2i_01 _ | assumption⟩) (by first | exact cl_t ⟨ge_of (by assumption), lt_of (by assumption)⟩ | exact cl_f (fun q => absurd q.1 (Int32.not_le.mpr (by assumption))) | exact cl_f (fun q => absurd q.2 (Int32.not_lt.mpr (by assumption)))) rfl
theorem dX7_isLetter_0 : decode cX7_isLetter 0 = .ok (.iload_n 0, 1) := by decide +kernel
theorem dX7_isLetter_1 : decode cX7_isLetter 1 = .ok (.ifCond .lt 12, 3) := by decide +kernel
theorem dX7_isLetter_4 : decode cX7_isLetter 4 = .ok (.iload_n 0, 1) := by decide +kernel
theorem dX7_isLetter_5 : decode cX7_isLetter 5 = .ok (.iconst 4, 1) := by decide +kernel
theorem dX7_isLetter_6 : decode cX7_isLetter 6 = .ok (.if_icmp .ge 7, 3) := by decide +kernel
theorem dX7_isLetter_9 : decode cX7_isLetter 9 = .ok (.iconst 1, 1) := by decide +kernel
theorem dX7_isLetter_10 : decode cX7_isLetter 10 = .ok (.goto 4, 3) := by decide +kernel
theorem dX7_isLetter_13 : decode cX7_isLetter 13 = .ok (.iconst 0, 1) := by decide +kernel
theorem dX7_isLetter_14 : decode cX7_isLetter 14 = .ok (.ireturn, 1) := by decide +kernel
theorem sp_X7_isLetter {x : Int32} {D : Mem} : Ei 1 j_X7_isLetter [.int x] D (b2i (decide (0 ≤ x ∧ x < 4))) (D) := by
  refine E.start 0 (ls := [some (.int x)]) (by decide +kernel) (Nat.le_of_ble_eq_true rfl) rfl (Nat.le_refl _) (Nat.le_refl _) ?_
  refine X_iload_n (nx := 1) dX7_isLetter_0 rfl rfl rfl ?_
  refine X_if_lt (tgt := 13) (nx := 4) dX7_isLetter_1 rfl rfl (fun h1 => ?_) (fun h1 => ?_)
  · skip
    refine X_iconst (v := 0) (nx := 14) dX7_isLetter_13 rfl rfl ?_
    exact Y_reti dX7_isLetter_14 (Or.inr ⟨rfl, by first | exact Or.inl rfl | exact Or.inr rfl | exact b2i_01 _ | assumption⟩) (by first | exact cl_t ⟨ge_of (by assumption), lt_of (by assumption)⟩ | exact cl_f (fun q => absurd q.1 (Int32.not_le.mpr (by assumption))) | exact cl_f (fun q => absurd q.2 (Int32.not_lt.mpr (by assumption)))) rfl
  · skip
    refine X_iload_n (nx := 5) dX7_isLetter_4 rfl rfl rfl ?_
    refine X_iconst (v := 4) (nx := 6) dX7_isLetter_5 rfl rfl ?_
    refine X_icmp_ge (tgt := 13) (nx := 9) dX7_isLetter_6 rfl rfl (fun h6 => ?_) (fun h6 => ?_)
    · skip
      refine X_iconst (v := 0) (nx := 14) dX7_isLetter_13 rfl rfl ?_
      exact Y_reti dX7_isLetter_14 (Or.inr ⟨rfl, by first | exact Or.inl rfl | exact Or.inr rfl | exact b2i_01 _ | assumption⟩) (by first | exact cl_t ⟨ge_of (by assumption), lt_of (by assumption)⟩ | exact cl_f (fun q => absurd q.1 (Int32.not_le.mpr (by assumption))) | exact cl_f (fun q => absurd q.2 (Int32.not_lt.mpr (by assumption)))) rfl
    · skip
      refine X_iconst (v := 1) (nx := 10) dX7_isLetter_9 rfl rfl ?_
      refine X_goto (tgt := 14) dX7_isLetter_10 rfl ?_
      exact Y_reti dX7_isLetter_14 (Or.inr ⟨rfl, by first | exact Or.inl rfl | exact Or.inr rfl | exact b2i_01 _ | assumption⟩) (by first | exact cl_t ⟨ge_of (by assumption), lt_of (by assumption)⟩ | exact cl_f (fun q => absurd q.1 (Int32.not_le.mpr (by assumption))) | exact cl_f (fun q => absurd q.2 (Int32.not_lt.mpr (by assumption)))) rfl
theorem dX7_isOneOfTwo_0 : decode cX7_isOneOfTwo 0 = .ok (.iload_n 0, 1) := by decide +kernel
theorem dX7_isOneOfTwo_1 : decode cX7_isOneOfTwo 1 = .ok (.ifCond .eq 8, 3) := by decide +kernel
theorem dX7_isOneOfTwo_4 : decode cX7_isOneOfTwo 4 = .ok (.iload_n 0, 1) := by decide +kernel
theorem dX7_isOneOfTwo_5 : decode cX7_isOneOfTwo 5 = .ok (.iconst 1, 1) := by decide +kernel
theorem dX7_isOneOfTwo_6 : decode cX7_isOneOfTwo 6 = .ok (.if_icmp .ne 7, 3) := by decide +kernel
theorem dX7_isOneOfTwo_9 : decode cX7_isOneOfTwo 9 = .ok (.iconst 1, 1) := by decide +kernel
theorem dX7_isOneOfTwo_10 : decode cX7_isOneOfTwo 10 = .ok (.goto 4, 3) := by decide +kernel
theorem dX7_isOneOfTwo_13 : decode cX7_isOneOfTwo 13 = .ok (.iconst 0, 1) := by decide +kernel
theorem dX7_isOneOfTwo_14 : decode cX7_isOneOfTwo 14 = .ok (.ireturn, 1) := by decide +kernel
theorem sp_X7_isOneOfTwo {x : Int32} {D : Mem} : Ei 1 j_X7_isOneOfTwo [.int x] D (b2i (decide (x = 0 ∨ x = 1))) (D) := by
  refine E.start 0 (ls := [some (.int x)]) (by decide +kernel) (Nat.le_of_ble_eq_true rfl) rfl (Nat.le_refl _) (Nat.le_refl _) ?_
  refine X_iload_n (nx := 1) dX7_isOneOfTwo_0 rfl rfl rfl ?_
  refine X_if_eq (tgt := 9) (nx := 4) dX7_isOneOfTwo_1 rfl rfl (fun h1 => ?_) (fun h1 => ?_)
  · skip
    refine X_iconst (v := 1) (nx := 10) dX7_isOneOfTwo_9 rfl rfl ?_
    refine X_goto (tgt := 14) dX7_isOneOfTwo_10 rfl ?_
    exact Y_reti dX7_isOneOfTwo_14 (Or.inr ⟨rfl, by first | exact Or.inl rfl | exact Or.inr rfl | exact b2i_01 _ | assumption⟩) (by first | exact cl_t (Or.inl (by assumption)) | exact cl_t (Or.inr (by assumption)) | exact cl_f (fun q => q.elim (by assumption) (by assumption))) rfl
  · skip
    refine X_iload_n (nx := 5) dX7_isOneOfTwo_4 rfl rfl rfl ?_
    refine X_iconst (v := 1) (nx := 6) dX7_isOneOfTwo_5 rfl rfl ?_
    refine X_icmp_ne (tgt := 13) (nx := 9) dX7_isOneOfTwo_6 rfl rfl (fun h6 => ?_) (fun h6 => ?_)
    · skip
      refine X_iconst (v := 0) (nx := 14) dX7_isOneOfTwo_13 rfl rfl ?_
      exact Y_reti dX7_isOneOfTwo_14 (Or.inr ⟨rfl, by first | exact Or.inl rfl | exact Or.inr rfl | exact b2i_01 _ | assumption⟩) (by first | exact cl_t (Or.inl (by assumption)) | exact cl_t (Or.inr (by assumption)) | exact cl_f (fun q => q.elim (by assumption) (by assumption))) rfl
    · skip
      refine X_iconst (v := 1) (nx := 10) dX7_isOneOfTwo_9 rfl rfl ?_
      refine X_goto (tgt := 14) dX7_isOneOfTwo_10 rfl ?_
      exact Y_reti dX7_isOneOfTwo_14 (Or.inr ⟨rfl, by first | exact Or.inl rfl | exact Or.inr rfl | exact b2i_01 _ | assumption⟩) (by first | exact cl_t (Or.inl (by assumption)) | exact cl_t (Or.inr (by assumption)) | exact cl_f (fun q => q.elim (by assumption) (by assumption))) rfl
theorem dX7_numberAt_0 : decode cX7_numberAt 0 = .ok (.iload_n 1, 1) := by decide +kernel
theorem dX7_numberAt_1 : decode cX7_numberAt 1 = .ok (.ifCond .lt 15, 3) := by decide +kernel
theorem dX7_numberAt_4 : decode cX7_numberAt 4 = .ok (.iload_n 1, 1) := by decide +kernel
theorem dX7_numberAt_5 : decode cX7_numberAt 5 = .ok (.aload_n 0, 1) := by decide +kernel
theorem dX7_numberAt_6 : decode cX7_numberAt 6 = .ok (.arraylength, 1) := by decide +kernel
theorem dX7_numberAt_7 : decode cX7_numberAt 7 = .ok (.if_icmp .ge 9, 3) := by decide +kernel
theorem dX7_numberAt_10 : decode cX7_numberAt 10 = .ok (.aload_n 0, 1) := by decide +kernel
theorem dX7_numberAt_11 : decode cX7_numberAt 11 = .ok (.iload_n 1, 1) := by decide +kernel
theorem dX7_numberAt_12 : decode cX7_numberAt 12 = .ok (.iaload, 1) := by decide +kernel
theorem dX7_numberAt_13 : decode cX7_numberAt 13 = .ok (.goto 4, 3) := by decide +kernel
theorem dX7_numberAt_16 : decode cX7_numberAt 16 = .ok (.iconst 0, 1) := by decide +kernel
theorem dX7_numberAt_17 : decode cX7_numberAt 17 = .ok (.ireturn, 1) := by decide +kernel
theorem sp_X7_numberAt {a i : Nat} {x : Int32} {D : Mem} (ha : a < 138) (hc : (lay a).1 = 8) (hx : x = nI i) (hi : i < (lay a).2) : Ei 1 j_X7_numberAt [.ref a, .int x] D (D a i) (D) := by
  refine E.start 0 (ls := [some (.ref a), some (.int x)]) (by decide +kernel) (Nat.le_of_ble_eq_true rfl) rfl (Nat.le_refl _) (Nat.le_refl _) ?_
  subst hx
  have hs := lay_small ha
  have hin : vp_in (nI i) (lay a).2 := vp_in_nI hi (by omega)
  refine X_iload_n (nx := 1) dX7_numberAt_0 rfl rfl rfl ?_
  refine X_if_lt (tgt := 16) (nx := 4) dX7_numberAt_1 rfl rfl (fun h1 => ?_) (fun h1 => ?_)
  · skip
    refine X_iconst (v := 0) (nx := 17) dX7_numberAt_16 rfl rfl ?_
    exact Y_reti dX7_numberAt_17 (Or.inl rfl) (by first | exact congrArg (D a) (nI_clamp (by omega)) | exact absurd (nI_lt (by assumption) (by omega)) (by assumption) | exact absurd (by assumption) (nI_neg (by omega)) | exact absurd (by assumption) (nI_ge hi (by omega))) rfl
  · skip
    refine X_iload_n (nx := 5) dX7_numberAt_4 rfl rfl rfl ?_
    refine X_aload_n (nx := 6) dX7_numberAt_5 rfl rfl rfl ?_
    refine M_alen (nx := 7) dX7_numberAt_6 rfl (by first | assumption | rfl | decide | omega) (Or.inl (by first | assumption | rfl | decide | omega)) ?_
    refine X_icmp_ge (tgt := 16) (nx := 10) dX7_numberAt_7 rfl rfl (fun h7 => ?_) (fun h7 => ?_)
    · skip
      refine X_iconst (v := 0) (nx := 17) dX7_numberAt_16 rfl rfl ?_
      exact Y_reti dX7_numberAt_17 (Or.inl rfl) (by first | exact congrArg (D a) (nI_clamp (by omega)) | exact absurd (nI_lt (by assumption) (by omega)) (by assumption) | exact absurd (by assumption) (nI_neg (by omega)) | exact absurd (by assumption) (nI_ge hi (by omega))) rfl
    · skip
      refine X_aload_n (nx := 11) dX7_numberAt_10 rfl rfl rfl ?_
      refine X_iload_n (nx := 12) dX7_numberAt_11 rfl rfl rfl ?_
      refine M_iald (nx := 13) dX7_numberAt_12 rfl (by first | assumption | rfl | decide | omega) (by first | assumption | rfl | decide | omega) (by first | assumption | rfl | decide | omega) ?_
      refine X_goto (tgt := 17) dX7_numberAt_13 rfl ?_
      exact Y_reti dX7_numberAt_17 (Or.inl rfl) (by first | exact congrArg (D a) (nI_clamp (by omega)) | exact absurd (nI_lt (by assumption) (by omega)) (by assumption) | exact absurd (by assumption) (nI_neg (by omega)) | exact absurd (by assumption) (nI_ge hi (by omega))) rfl
theorem dX7_put_0 : decode cX7_put 0 = .ok (.iload_n 1, 1) := by decide +kernel
theorem dX7_put_1 : decode cX7_put 1 = .ok (.ifCond .lt 13, 3) := by decide +kernel
theorem dX7_put_4 : decode cX7_put 4 = .ok (.iload_n 1, 1) := by decide +kernel
theorem dX7_put_5 : decode cX7_put 5 = .ok (.aload_n 0, 1) := by decide +kernel
theorem dX7_put_6 : decode cX7_put 6 = .ok (.arraylength, 1) := by decide +kernel
theorem dX7_put_7 : decode cX7_put 7 = .ok (.if_icmp .ge 7, 3) := by decide +kernel
theorem dX7_put_10 : decode cX7_put 10 = .ok (.aload_n 0, 1) := by decide +kernel
theorem dX7_put_11 : decode cX7_put 11 = .ok (.iload_n 1, 1) := by decide +kernel
theorem dX7_put_12 : decode cX7_put 12 = .ok (.iload_n 2, 1) := by decide +kernel
theorem dX7_put_13 : decode cX7_put 13 = .ok (.iastore, 1) := by decide +kernel
theorem dX7_put_14 : decode cX7_put 14 = .ok (.return_, 1) := by decide +kernel
theorem sp_X7_put {a i : Nat} {x v : Int32} {D : Mem} (ha : a < 138) (hc : (lay a).1 = 8) (hx : x = nI i) (hi : i < (lay a).2) : Ev 1 j_X7_put [.ref a, .int x, .int v] D (up2 D a i v) := by
  refine E.start 0 (ls := [some (.ref a), some (.int x), some (.int v)]) (by decide +kernel) (Nat.le_of_ble_eq_true rfl) rfl (Nat.le_refl _) (Nat.le_refl _) ?_
  subst hx
  have hs := lay_small ha
  have hin : vp_in (nI i) (lay a).2 := vp_in_nI hi (by omega)
  refine X_iload_n (nx := 1) dX7_put_0 rfl rfl rfl ?_
  refine X_if_lt (tgt := 14) (nx := 4) dX7_put_1 rfl rfl (fun h1 => ?_) (fun h1 => ?_)
  · skip
    exact Y_retv dX7_put_14 rfl (by first | (rw [nI_clamp (by omega)]; done) | exact absurd (by assumption) (nI_neg (by omega)) | exact absurd (by assumption) (nI_ge hi (by omega)))
  · skip
    refine X_iload_n (nx := 5) dX7_put_4 rfl rfl rfl ?_
    refine X_aload_n (nx := 6) dX7_put_5 rfl rfl rfl ?_
    refine M_alen (nx := 7) dX7_put_6 rfl (by first | assumption | rfl | decide | omega) (Or.inl (by first | assumption | rfl | decide | omega)) ?_
    refine X_icmp_ge (tgt := 14) (nx := 10) dX7_put_7 rfl rfl (fun h7 => ?_) (fun h7 => ?_)
    · skip
      exact Y_retv dX7_put_14 rfl (by first | (rw [nI_clamp (by omega)]; done) | exact absurd (by assumption) (nI_neg (by omega)) | exact absurd (by assumption) (nI_ge hi (by omega)))
    · skip
      refine X_aload_n (nx := 11) dX7_put_10 rfl rfl rfl ?_
      refine X_iload_n (nx := 12) dX7_put_11 rfl rfl rfl ?_
      refine X_iload_n (nx := 13) dX7_put_12 rfl rfl rfl ?_
      refine M_iast (nx := 14) dX7_put_13 rfl (by first | assumption | rfl | decide | omega) (by first | assumption | rfl | decide | omega) (by first | assumption | rfl | decide | omega) ?_
      exact Y_retv dX7_put_14 rfl (by first | (rw [nI_clamp (by omega)]; done) | exact absurd (by assumption) (nI_neg (by omega)) | exact absurd (by assumption) (nI_ge hi (by omega)))
theorem sp_X7_numberAtF {i : Nat} {x : Int32} {D : Mem} (hx : x = nI i) (hi : i < 5) : Ei 1 j_X7_numberAt [.ref 2000, .int x] D (([0, 1, 5, 21, 85] : List Int32).getD i 0) (D) := by
  refine E.start 0 (ls := [some (.ref 2000), some (.int x)]) (by decide +kernel) (Nat.le_of_ble_eq_true rfl) rfl (Nat.le_refl _) (Nat.le_refl _) ?_
  subst hx
  have hin : vp_in (nI i) 5 := vp_in_nI hi (by omega)
  refine X_iload_n (nx := 1) dX7_numberAt_0 rfl rfl rfl ?_
  refine X_if_lt (tgt := 16) (nx := 4) dX7_numberAt_1 rfl rfl (fun h1 => ?_) (fun h1 => ?_)
  · skip
    refine X_iconst (v := 0) (nx := 17) dX7_numberAt_16 rfl rfl ?_
    exact Y_reti dX7_numberAt_17 (Or.inl rfl) (by first | exact congrArg (fun k => ([0, 1, 5, 21, 85] : List Int32).getD k 0) (nI_clamp (by omega)) | exact absurd (by assumption) (nI_neg (by omega)) | exact absurd (by assumption) (nI_ge hi (by omega))) rfl
  · skip
    refine X_iload_n (nx := 5) dX7_numberAt_4 rfl rfl rfl ?_
    refine X_aload_n (nx := 6) dX7_numberAt_5 rfl rfl rfl ?_
    refine X_slen (nx := 7) dX7_numberAt_6 rfl (n := 5) (fun _ _ => rfl) ?_
    refine X_icmp_ge (tgt := 16) (nx := 10) dX7_numberAt_7 rfl rfl (fun h7 => ?_) (fun h7 => ?_)
    · skip
      refine X_iconst (v := 0) (nx := 17) dX7_numberAt_16 rfl rfl ?_
      exact Y_reti dX7_numberAt_17 (Or.inl rfl) (by first | exact congrArg (fun k => ([0, 1, 5, 21, 85] : List Int32).getD k 0) (nI_clamp (by omega)) | exact absurd (by assumption) (nI_neg (by omega)) | exact absurd (by assumption) (nI_ge hi (by omega))) rfl
    · skip
      refine X_aload_n (nx := 11) dX7_numberAt_10 rfl rfl rfl ?_
      refine X_iload_n (nx := 12) dX7_numberAt_11 rfl rfl rfl ?_
      refine X_sld (nx := 13) dX7_numberAt_12 rfl (n := 5) (fun _ _ => rfl) hin ?_
      refine X_goto (tgt := 17) dX7_numberAt_13 rfl ?_
      exact Y_reti dX7_numberAt_17 (Or.inl rfl) (by first | exact congrArg (fun k => ([0, 1, 5, 21, 85] : List Int32).getD k 0) (nI_clamp (by omega)) | exact absurd (by assumption) (nI_neg (by omega)) | exact absurd (by assumption) (nI_ge hi (by omega))) rfl
