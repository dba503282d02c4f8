/-! TOLD SIGNS: the form -/
def dig (c : Nat) : Bool := decide (48 ≤ c ∧ c ≤ 57)
def nam (c : Nat) : Bool := decide (c = 60 ∨ c = 62 ∨ c = 58)
/-- the state behind a sign; 10 is dead -/
def dl (q c : Nat) : Nat :=
  if q = 0 then (if c = 114 ∨ c = 109 then 1 else if c = 107 then 6 else if c = 120 then 8 else 10)
  else if q = 1 then (if dig c = true then 2 else 10)
  else if q = 2 ∨ q = 5 then (if dig c = true then 3 else 10)
  else if q = 3 then (if c = 47 then 4 else if c = 59 then 0 else 10)
  else if q = 4 then (if nam c = true then 5 else if c = 42 ∨ (97 ≤ c ∧ c ≤ 100) then 3 else 10)
  else if q = 6 then (if dig c = true then 7 else 10)
  else if q = 7 then (if dig c = true then 8 else 10)
  else if q = 8 then (if dig c = true then 9 else 10)
  else if q = 9 then (if c = 59 then 0 else 10)
  else 10
def stI (q : Nat) : Int32 := if q = 10 then -1 else nI q
theorem dl_le (q c : Nat) : dl q c ≤ 10 := by
  unfold dl
  repeat' split
  all_goals omega
theorem sbf (c : Nat) : c = 107 ∨ c = 109 ∨ c = 114 ∨ c = 120 ∨ (¬ c = 107 ∧ ¬ c = 109 ∧ ¬ c = 114 ∧ ¬ c = 120) := by omega
theorem ne_toInt {c k : Nat} (h : ¬ c = k) (hc : c < 1000) : ((nI c).toInt == (k : Int)) = false := by
  rw [nI_toInt (by omega), beq_eq_false_iff_ne]
  omega
theorem off_4 {c : Nat} {d a b e f : Int} (hc : c < 1000) (h : ¬ c = 107 ∧ ¬ c = 109 ∧ ¬ c = 114 ∧ ¬ c = 120) : Op.lookupswitch.offset [((107 : Int), a), (109, b), (114, e), (120, f)] d (nI c).toInt = d := by
  rw [nI_toInt (by omega)]
  have h1 : ¬ ((107 : Int) = (c : Int)) := by omega
  have h2 : ¬ ((109 : Int) = (c : Int)) := by omega
  have h3 : ¬ ((114 : Int) = (c : Int)) := by omega
  have h4 : ¬ ((120 : Int) = (c : Int)) := by omega
  have g1 : ¬ ((c : Int) = 107) := by omega
  have g2 : ¬ ((c : Int) = 109) := by omega
  have g3 : ¬ ((c : Int) = 114) := by omega
  have g4 : ¬ ((c : Int) = 120) := by omega
  simp [Op.lookupswitch.offset, h1, h2, h3, h4, g1, g2, g3, g4]
theorem of_dl {q c r : Nat} {v : Int32} (h : dl q c = r) (hv : v = stI r) : v = stI (dl q c) := by rw [h]; exact hv
theorem dX3_isDigit_0 : decode cX3_isDigit 0 = .ok (.iload_n 0, 1) := by decide +kernel
theorem dX3_isDigit_1 : decode cX3_isDigit 1 = .ok (.bipush 48, 2) := by decide +kernel
theorem dX3_isDigit_3 : decode cX3_isDigit 3 = .ok (.if_icmp .lt 13, 3) := by decide +kernel
theorem dX3_isDigit_6 : decode cX3_isDigit 6 = .ok (.iload_n 0, 1) := by decide +kernel
theorem dX3_isDigit_7 : decode cX3_isDigit 7 = .ok (.bipush 57, 2) := by decide +kernel
theorem dX3_isDigit_9 : decode cX3_isDigit 9 = .ok (.if_icmp .gt 7, 3) := by decide +kernel
theorem dX3_isDigit_12 : decode cX3_isDigit 12 = .ok (.iconst 1, 1) := by decide +kernel
theorem dX3_isDigit_13 : decode cX3_isDigit 13 = .ok (.goto 4, 3) := by decide +kernel
theorem dX3_isDigit_16 : decode cX3_isDigit 16 = .ok (.iconst 0, 1) := by decide +kernel
theorem dX3_isDigit_17 : decode cX3_isDigit 17 = .ok (.ireturn, 1) := by decide +kernel
theorem sp_X3_isDigit {c : Nat} {x : Int32} {D : Mem} (hx : x = nI c) (hc : c < 1000) : Ei 1 j_X3_isDigit [.int x] D (b2i (dig c)) (D) := by
  refine E.start 0 (ls := [some (.int x)]) (by decide +kernel) (Nat.le_of_ble_eq_true rfl) rfl (Nat.le_refl _) (Nat.le_refl _) ?_
  subst hx
  refine X_iload_n (nx := 1) dX3_isDigit_0 rfl rfl rfl ?_
  refine X_bipush (v := nI 48) (nx := 3) dX3_isDigit_1 rfl rfl ?_
  refine X_icmp_lt (tgt := 16) (nx := 6) dX3_isDigit_3 rfl rfl (fun h3 => ?_) (fun h3 => ?_)
  · skip
    rw [nI_ltI (by omega) (by omega)] at h3
    refine X_iconst (v := 0) (nx := 17) dX3_isDigit_16 rfl rfl ?_
    exact Y_reti dX3_isDigit_17 (Or.inr ⟨rfl, by first | exact Or.inl rfl | exact Or.inr rfl | exact b2i_01 _ | assumption⟩) (by unfold dig; first | (rw [decide_eq_false (by omega)]; rfl) | (rw [decide_eq_true (by omega)]; rfl)) rfl
  · skip
    rw [nI_ltI (by omega) (by omega)] at h3
    refine X_iload_n (nx := 7) dX3_isDigit_6 rfl rfl rfl ?_
    refine X_bipush (v := nI 57) (nx := 9) dX3_isDigit_7 rfl rfl ?_
    refine X_icmp_gt (tgt := 16) (nx := 12) dX3_isDigit_9 rfl rfl (fun h9 => ?_) (fun h9 => ?_)
    · skip
      rw [nI_ltI (by omega) (by omega)] at h9
      refine X_iconst (v := 0) (nx := 17) dX3_isDigit_16 rfl rfl ?_
      exact Y_reti dX3_isDigit_17 (Or.inr ⟨rfl, by first | exact Or.inl rfl | exact Or.inr rfl | exact b2i_01 _ | assumption⟩) (by unfold dig; first | (rw [decide_eq_false (by omega)]; rfl) | (rw [decide_eq_true (by omega)]; rfl)) rfl
    · skip
      rw [nI_ltI (by omega) (by omega)] at h9
      refine X_iconst (v := 1) (nx := 13) dX3_isDigit_12 rfl rfl ?_
      refine X_goto (tgt := 17) dX3_isDigit_13 rfl ?_
      exact Y_reti dX3_isDigit_17 (Or.inr ⟨rfl, by first | exact Or.inl rfl | exact Or.inr rfl | exact b2i_01 _ | assumption⟩) (by unfold dig; first | (rw [decide_eq_false (by omega)]; rfl) | (rw [decide_eq_true (by omega)]; rfl)) rfl
theorem dX3_isNamed_0 : decode cX3_isNamed 0 = .ok (.iload_n 0, 1) := by decide +kernel
theorem dX3_isNamed_1 : decode cX3_isNamed 1 = .ok (.bipush 60, 2) := by decide +kernel
theorem dX3_isNamed_3 : decode cX3_isNamed 3 = .ok (.if_icmp .eq 15, 3) := by decide +kernel
theorem dX3_isNamed_6 : decode cX3_isNamed 6 = .ok (.iload_n 0, 1) := by decide +kernel
theorem dX3_isNamed_7 : decode cX3_isNamed 7 = .ok (.bipush 62, 2) := by decide +kernel
theorem dX3_isNamed_9 : decode cX3_isNamed 9 = .ok (.if_icmp .eq 9, 3) := by decide +kernel
theorem dX3_isNamed_12 : decode cX3_isNamed 12 = .ok (.iload_n 0, 1) := by decide +kernel
theorem dX3_isNamed_13 : decode cX3_isNamed 13 = .ok (.bipush 58, 2) := by decide +kernel
theorem dX3_isNamed_15 : decode cX3_isNamed 15 = .ok (.if_icmp .ne 7, 3) := by decide +kernel
theorem dX3_isNamed_18 : decode cX3_isNamed 18 = .ok (.iconst 1, 1) := by decide +kernel
theorem dX3_isNamed_19 : decode cX3_isNamed 19 = .ok (.goto 4, 3) := by decide +kernel
theorem dX3_isNamed_22 : decode cX3_isNamed 22 = .ok (.iconst 0, 1) := by decide +kernel
theorem dX3_isNamed_23 : decode cX3_isNamed 23 = .ok (.ireturn, 1) := by decide +kernel
theorem sp_X3_isNamed {c : Nat} {x : Int32} {D : Mem} (hx : x = nI c) (hc : c < 1000) : Ei 1 j_X3_isNamed [.int x] D (b2i (nam c)) (D) := by
  refine E.start 0 (ls := [some (.int x)]) (by decide +kernel) (Nat.le_of_ble_eq_true rfl) rfl (Nat.le_refl _) (Nat.le_refl _) ?_
  subst hx
  refine X_iload_n (nx := 1) dX3_isNamed_0 rfl rfl rfl ?_
  refine X_bipush (v := nI 60) (nx := 3) dX3_isNamed_1 rfl rfl ?_
  refine X_icmp_eq (tgt := 18) (nx := 6) dX3_isNamed_3 rfl rfl (fun h3 => ?_) (fun h3 => ?_)
  · skip
    rw [nI_eq (by omega) (by omega)] at h3
    refine X_iconst (v := 1) (nx := 19) dX3_isNamed_18 rfl rfl ?_
    refine X_goto (tgt := 23) dX3_isNamed_19 rfl ?_
    exact Y_reti dX3_isNamed_23 (Or.inr ⟨rfl, by first | exact Or.inl rfl | exact Or.inr rfl | exact b2i_01 _ | assumption⟩) (by unfold nam; first | (rw [decide_eq_false (by omega)]; rfl) | (rw [decide_eq_true (by omega)]; rfl)) rfl
  · skip
    rw [nI_eq (by omega) (by omega)] at h3
    refine X_iload_n (nx := 7) dX3_isNamed_6 rfl rfl rfl ?_
    refine X_bipush (v := nI 62) (nx := 9) dX3_isNamed_7 rfl rfl ?_
    refine X_icmp_eq (tgt := 18) (nx := 12) dX3_isNamed_9 rfl rfl (fun h9 => ?_) (fun h9 => ?_)
    · skip
      rw [nI_eq (by omega) (by omega)] at h9
      refine X_iconst (v := 1) (nx := 19) dX3_isNamed_18 rfl rfl ?_
      refine X_goto (tgt := 23) dX3_isNamed_19 rfl ?_
      exact Y_reti dX3_isNamed_23 (Or.inr ⟨rfl, by first | exact Or.inl rfl | exact Or.inr rfl | exact b2i_01 _ | assumption⟩) (by unfold nam; first | (rw [decide_eq_false (by omega)]; rfl) | (rw [decide_eq_true (by omega)]; rfl)) rfl
    · skip
      rw [nI_eq (by omega) (by omega)] at h9
      refine X_iload_n (nx := 13) dX3_isNamed_12 rfl rfl rfl ?_
      refine X_bipush (v := nI 58) (nx := 15) dX3_isNamed_13 rfl rfl ?_
      refine X_icmp_ne (tgt := 22) (nx := 18) dX3_isNamed_15 rfl rfl (fun h15 => ?_) (fun h15 => ?_)
      · skip
        rw [nI_eq (by omega) (by omega)] at h15
        refine X_iconst (v := 0) (nx := 23) dX3_isNamed_22 rfl rfl ?_
        exact Y_reti dX3_isNamed_23 (Or.inr ⟨rfl, by first | exact Or.inl rfl | exact Or.inr rfl | exact b2i_01 _ | assumption⟩) (by unfold nam; first | (rw [decide_eq_false (by omega)]; rfl) | (rw [decide_eq_true (by omega)]; rfl)) rfl
      · skip
        rw [nI_eq (by omega) (by omega)] at h15
        refine X_iconst (v := 1) (nx := 19) dX3_isNamed_18 rfl rfl ?_
        refine X_goto (tgt := 23) dX3_isNamed_19 rfl ?_
        exact Y_reti dX3_isNamed_23 (Or.inr ⟨rfl, by first | exact Or.inl rfl | exact Or.inr rfl | exact b2i_01 _ | assumption⟩) (by unfold nam; first | (rw [decide_eq_false (by omega)]; rfl) | (rw [decide_eq_true (by omega)]; rfl)) rfl
theorem dX3_stateBehindClose_0 : decode cX3_stateBehindClose 0 = .ok (.iload_n 0, 1) := by decide +kernel
theorem dX3_stateBehindClose_1 : decode cX3_stateBehindClose 1 = .ok (.bipush 59, 2) := by decide +kernel
theorem dX3_stateBehindClose_3 : decode cX3_stateBehindClose 3 = .ok (.if_icmp .ne 7, 3) := by decide +kernel
theorem dX3_stateBehindClose_6 : decode cX3_stateBehindClose 6 = .ok (.iconst 0, 1) := by decide +kernel
theorem dX3_stateBehindClose_7 : decode cX3_stateBehindClose 7 = .ok (.goto 4, 3) := by decide +kernel
theorem dX3_stateBehindClose_10 : decode cX3_stateBehindClose 10 = .ok (.iconst (-1), 1) := by decide +kernel
theorem dX3_stateBehindClose_11 : decode cX3_stateBehindClose 11 = .ok (.ireturn, 1) := by decide +kernel
theorem sp_X3_stateBehindClose {c : Nat} {x : Int32} {D : Mem} (hx : x = nI c) (hc : c < 1000) : Ei 1 j_X3_stateBehindClose [.int x] D (stI (if c = 59 then 0 else 10)) (D) := by
  refine E.start 0 (ls := [some (.int x)]) (by decide +kernel) (Nat.le_of_ble_eq_true rfl) rfl (Nat.le_refl _) (Nat.le_refl _) ?_
  subst hx
  refine X_iload_n (nx := 1) dX3_stateBehindClose_0 rfl rfl rfl ?_
  refine X_bipush (v := nI 59) (nx := 3) dX3_stateBehindClose_1 rfl rfl ?_
  refine X_icmp_ne (tgt := 10) (nx := 6) dX3_stateBehindClose_3 rfl rfl (fun h3 => ?_) (fun h3 => ?_)
  · skip
    rw [nI_eq (by omega) (by omega)] at h3
    refine X_iconst (v := -1) (nx := 11) dX3_stateBehindClose_10 rfl rfl ?_
    exact Y_reti dX3_stateBehindClose_11 (Or.inl rfl) (by first | (rw [if_neg h3]; rfl) | (rw [if_pos h3]; rfl)) rfl
  · skip
    rw [nI_eq (by omega) (by omega)] at h3
    refine X_iconst (v := 0) (nx := 7) dX3_stateBehindClose_6 rfl rfl ?_
    refine X_goto (tgt := 11) dX3_stateBehindClose_7 rfl ?_
    exact Y_reti dX3_stateBehindClose_11 (Or.inl rfl) (by first | (rw [if_neg h3]; rfl) | (rw [if_pos h3]; rfl)) rfl
theorem dX3_stateBehindFirst_0 : decode cX3_stateBehindFirst 0 = .ok (.iload_n 0, 1) := by decide +kernel
theorem dX3_stateBehindFirst_1 : decode cX3_stateBehindFirst 1 = .ok (.lookupswitch 51 #[(107, 45), (109, 43), (114, 43), (120, 48)], 43) := by decide +kernel
theorem dX3_stateBehindFirst_44 : decode cX3_stateBehindFirst 44 = .ok (.iconst 1, 1) := by decide +kernel
theorem dX3_stateBehindFirst_45 : decode cX3_stateBehindFirst 45 = .ok (.ireturn, 1) := by decide +kernel
theorem dX3_stateBehindFirst_46 : decode cX3_stateBehindFirst 46 = .ok (.bipush 6, 2) := by decide +kernel
theorem dX3_stateBehindFirst_48 : decode cX3_stateBehindFirst 48 = .ok (.ireturn, 1) := by decide +kernel
theorem dX3_stateBehindFirst_49 : decode cX3_stateBehindFirst 49 = .ok (.bipush 8, 2) := by decide +kernel
theorem dX3_stateBehindFirst_51 : decode cX3_stateBehindFirst 51 = .ok (.ireturn, 1) := by decide +kernel
theorem dX3_stateBehindFirst_52 : decode cX3_stateBehindFirst 52 = .ok (.iconst (-1), 1) := by decide +kernel
theorem dX3_stateBehindFirst_53 : decode cX3_stateBehindFirst 53 = .ok (.ireturn, 1) := by decide +kernel
theorem sp_X3_stateBehindFirst {c : Nat} {x : Int32} {D : Mem} (hx : x = nI c) (hc : c < 1000) : Ei 1 j_X3_stateBehindFirst [.int x] D (stI (if c = 114 ∨ c = 109 then 1 else if c = 107 then 6 else if c = 120 then 8 else 10)) (D) := by
  refine E.start 0 (ls := [some (.int x)]) (by decide +kernel) (Nat.le_of_ble_eq_true rfl) rfl (Nat.le_refl _) (Nat.le_refl _) ?_
  subst hx
  refine X_iload_n (nx := 1) dX3_stateBehindFirst_0 rfl rfl rfl ?_
  rcases sbf c with rfl | rfl | rfl | rfl | hno
  · skip
    refine X_top (y := 107) (rfl) ?_
    refine X_lookup (tgt := 46) (off := 45) dX3_stateBehindFirst_1 (by decide) (by decide) rfl ?_
    refine X_bipush (v := 6) (nx := 48) dX3_stateBehindFirst_46 rfl rfl ?_
    exact Y_reti dX3_stateBehindFirst_48 (Or.inl rfl) (by first | rfl | (rw [if_neg (by omega), if_neg (by omega), if_neg (by omega)]; rfl)) rfl
  · skip
    refine X_top (y := 109) (rfl) ?_
    refine X_lookup (tgt := 44) (off := 43) dX3_stateBehindFirst_1 (by decide) (by decide) rfl ?_
    refine X_iconst (v := 1) (nx := 45) dX3_stateBehindFirst_44 rfl rfl ?_
    exact Y_reti dX3_stateBehindFirst_45 (Or.inl rfl) (by first | rfl | (rw [if_neg (by omega), if_neg (by omega), if_neg (by omega)]; rfl)) rfl
  · skip
    refine X_top (y := 114) (rfl) ?_
    refine X_lookup (tgt := 44) (off := 43) dX3_stateBehindFirst_1 (by decide) (by decide) rfl ?_
    refine X_iconst (v := 1) (nx := 45) dX3_stateBehindFirst_44 rfl rfl ?_
    exact Y_reti dX3_stateBehindFirst_45 (Or.inl rfl) (by first | rfl | (rw [if_neg (by omega), if_neg (by omega), if_neg (by omega)]; rfl)) rfl
  · skip
    refine X_top (y := 120) (rfl) ?_
    refine X_lookup (tgt := 49) (off := 48) dX3_stateBehindFirst_1 (by decide) (by decide) rfl ?_
    refine X_bipush (v := 8) (nx := 51) dX3_stateBehindFirst_49 rfl rfl ?_
    exact Y_reti dX3_stateBehindFirst_51 (Or.inl rfl) (by first | rfl | (rw [if_neg (by omega), if_neg (by omega), if_neg (by omega)]; rfl)) rfl
  · skip
    refine X_lookup (tgt := 52) (off := 51) dX3_stateBehindFirst_1 (by decide) (off_4 hc hno) rfl ?_
    refine X_iconst (v := -1) (nx := 53) dX3_stateBehindFirst_52 rfl rfl ?_
    exact Y_reti dX3_stateBehindFirst_53 (Or.inl rfl) (by first | rfl | (rw [if_neg (by omega), if_neg (by omega), if_neg (by omega)]; rfl)) rfl
theorem q10 {q : Nat} (h : q < 10) : q = 0 ∨ q = 1 ∨ q = 2 ∨ q = 3 ∨ q = 4 ∨ q = 5 ∨ q = 6 ∨ q = 7 ∨ q = 8 ∨ q = 9 := by omega
theorem dX3_stateBehind_0 : decode cX3_stateBehind 0 = .ok (.iload_n 0, 1) := by decide +kernel
theorem dX3_stateBehind_1 : decode cX3_stateBehind 1 = .ok (.tableswitch 181 0 9 #[55, 60, 73, 86, 101, 73, 134, 148, 162, 176], 55) := by decide +kernel
theorem dX3_stateBehind_56 : decode cX3_stateBehind 56 = .ok (.iload_n 1, 1) := by decide +kernel
theorem dX3_stateBehind_57 : decode cX3_stateBehind 57 = .ok (.invokestatic 33, 3) := by decide +kernel
theorem dX3_stateBehind_60 : decode cX3_stateBehind 60 = .ok (.ireturn, 1) := by decide +kernel
theorem dX3_stateBehind_61 : decode cX3_stateBehind 61 = .ok (.iload_n 1, 1) := by decide +kernel
theorem dX3_stateBehind_62 : decode cX3_stateBehind 62 = .ok (.invokestatic 36, 3) := by decide +kernel
theorem dX3_stateBehind_65 : decode cX3_stateBehind 65 = .ok (.ifCond .eq 7, 3) := by decide +kernel
theorem dX3_stateBehind_68 : decode cX3_stateBehind 68 = .ok (.iconst 2, 1) := by decide +kernel
theorem dX3_stateBehind_69 : decode cX3_stateBehind 69 = .ok (.goto 4, 3) := by decide +kernel
theorem dX3_stateBehind_72 : decode cX3_stateBehind 72 = .ok (.iconst (-1), 1) := by decide +kernel
theorem dX3_stateBehind_73 : decode cX3_stateBehind 73 = .ok (.ireturn, 1) := by decide +kernel
theorem dX3_stateBehind_74 : decode cX3_stateBehind 74 = .ok (.iload_n 1, 1) := by decide +kernel
theorem dX3_stateBehind_75 : decode cX3_stateBehind 75 = .ok (.invokestatic 36, 3) := by decide +kernel
theorem dX3_stateBehind_78 : decode cX3_stateBehind 78 = .ok (.ifCond .eq 7, 3) := by decide +kernel
theorem dX3_stateBehind_81 : decode cX3_stateBehind 81 = .ok (.iconst 3, 1) := by decide +kernel
theorem dX3_stateBehind_82 : decode cX3_stateBehind 82 = .ok (.goto 4, 3) := by decide +kernel
theorem dX3_stateBehind_85 : decode cX3_stateBehind 85 = .ok (.iconst (-1), 1) := by decide +kernel
theorem dX3_stateBehind_86 : decode cX3_stateBehind 86 = .ok (.ireturn, 1) := by decide +kernel
theorem dX3_stateBehind_87 : decode cX3_stateBehind 87 = .ok (.iload_n 1, 1) := by decide +kernel
theorem dX3_stateBehind_88 : decode cX3_stateBehind 88 = .ok (.bipush 47, 2) := by decide +kernel
theorem dX3_stateBehind_90 : decode cX3_stateBehind 90 = .ok (.if_icmp .ne 7, 3) := by decide +kernel
theorem dX3_stateBehind_93 : decode cX3_stateBehind 93 = .ok (.iconst 4, 1) := by decide +kernel
theorem dX3_stateBehind_94 : decode cX3_stateBehind 94 = .ok (.goto 7, 3) := by decide +kernel
theorem dX3_stateBehind_97 : decode cX3_stateBehind 97 = .ok (.iload_n 1, 1) := by decide +kernel
theorem dX3_stateBehind_98 : decode cX3_stateBehind 98 = .ok (.invokestatic 40, 3) := by decide +kernel
theorem dX3_stateBehind_101 : decode cX3_stateBehind 101 = .ok (.ireturn, 1) := by decide +kernel
theorem dX3_stateBehind_102 : decode cX3_stateBehind 102 = .ok (.iload_n 1, 1) := by decide +kernel
theorem dX3_stateBehind_103 : decode cX3_stateBehind 103 = .ok (.invokestatic 43, 3) := by decide +kernel
theorem dX3_stateBehind_106 : decode cX3_stateBehind 106 = .ok (.ifCond .eq 5, 3) := by decide +kernel
theorem dX3_stateBehind_109 : decode cX3_stateBehind 109 = .ok (.iconst 5, 1) := by decide +kernel
theorem dX3_stateBehind_110 : decode cX3_stateBehind 110 = .ok (.ireturn, 1) := by decide +kernel
theorem dX3_stateBehind_111 : decode cX3_stateBehind 111 = .ok (.iload_n 1, 1) := by decide +kernel
theorem dX3_stateBehind_112 : decode cX3_stateBehind 112 = .ok (.bipush 42, 2) := by decide +kernel
theorem dX3_stateBehind_114 : decode cX3_stateBehind 114 = .ok (.if_icmp .eq 15, 3) := by decide +kernel
theorem dX3_stateBehind_117 : decode cX3_stateBehind 117 = .ok (.iload_n 1, 1) := by decide +kernel
theorem dX3_stateBehind_118 : decode cX3_stateBehind 118 = .ok (.bipush 97, 2) := by decide +kernel
theorem dX3_stateBehind_120 : decode cX3_stateBehind 120 = .ok (.if_icmp .lt 13, 3) := by decide +kernel
theorem dX3_stateBehind_123 : decode cX3_stateBehind 123 = .ok (.iload_n 1, 1) := by decide +kernel
theorem dX3_stateBehind_124 : decode cX3_stateBehind 124 = .ok (.bipush 100, 2) := by decide +kernel
theorem dX3_stateBehind_126 : decode cX3_stateBehind 126 = .ok (.if_icmp .gt 7, 3) := by decide +kernel
theorem dX3_stateBehind_129 : decode cX3_stateBehind 129 = .ok (.iconst 3, 1) := by decide +kernel
theorem dX3_stateBehind_130 : decode cX3_stateBehind 130 = .ok (.goto 4, 3) := by decide +kernel
theorem dX3_stateBehind_133 : decode cX3_stateBehind 133 = .ok (.iconst (-1), 1) := by decide +kernel
theorem dX3_stateBehind_134 : decode cX3_stateBehind 134 = .ok (.ireturn, 1) := by decide +kernel
theorem dX3_stateBehind_135 : decode cX3_stateBehind 135 = .ok (.iload_n 1, 1) := by decide +kernel
theorem dX3_stateBehind_136 : decode cX3_stateBehind 136 = .ok (.invokestatic 36, 3) := by decide +kernel
theorem dX3_stateBehind_139 : decode cX3_stateBehind 139 = .ok (.ifCond .eq 8, 3) := by decide +kernel
theorem dX3_stateBehind_142 : decode cX3_stateBehind 142 = .ok (.bipush 7, 2) := by decide +kernel
theorem dX3_stateBehind_144 : decode cX3_stateBehind 144 = .ok (.goto 4, 3) := by decide +kernel
theorem dX3_stateBehind_147 : decode cX3_stateBehind 147 = .ok (.iconst (-1), 1) := by decide +kernel
theorem dX3_stateBehind_148 : decode cX3_stateBehind 148 = .ok (.ireturn, 1) := by decide +kernel
theorem dX3_stateBehind_149 : decode cX3_stateBehind 149 = .ok (.iload_n 1, 1) := by decide +kernel
theorem dX3_stateBehind_150 : decode cX3_stateBehind 150 = .ok (.invokestatic 36, 3) := by decide +kernel
theorem dX3_stateBehind_153 : decode cX3_stateBehind 153 = .ok (.ifCond .eq 8, 3) := by decide +kernel
theorem dX3_stateBehind_156 : decode cX3_stateBehind 156 = .ok (.bipush 8, 2) := by decide +kernel
theorem dX3_stateBehind_158 : decode cX3_stateBehind 158 = .ok (.goto 4, 3) := by decide +kernel
theorem dX3_stateBehind_161 : decode cX3_stateBehind 161 = .ok (.iconst (-1), 1) := by decide +kernel
theorem dX3_stateBehind_162 : decode cX3_stateBehind 162 = .ok (.ireturn, 1) := by decide +kernel
theorem dX3_stateBehind_163 : decode cX3_stateBehind 163 = .ok (.iload_n 1, 1) := by decide +kernel
theorem dX3_stateBehind_164 : decode cX3_stateBehind 164 = .ok (.invokestatic 36, 3) := by decide +kernel
theorem dX3_stateBehind_167 : decode cX3_stateBehind 167 = .ok (.ifCond .eq 8, 3) := by decide +kernel
theorem dX3_stateBehind_170 : decode cX3_stateBehind 170 = .ok (.bipush 9, 2) := by decide +kernel
theorem dX3_stateBehind_172 : decode cX3_stateBehind 172 = .ok (.goto 4, 3) := by decide +kernel
theorem dX3_stateBehind_175 : decode cX3_stateBehind 175 = .ok (.iconst (-1), 1) := by decide +kernel
theorem dX3_stateBehind_176 : decode cX3_stateBehind 176 = .ok (.ireturn, 1) := by decide +kernel
theorem dX3_stateBehind_177 : decode cX3_stateBehind 177 = .ok (.iload_n 1, 1) := by decide +kernel
theorem dX3_stateBehind_178 : decode cX3_stateBehind 178 = .ok (.invokestatic 40, 3) := by decide +kernel
theorem dX3_stateBehind_181 : decode cX3_stateBehind 181 = .ok (.ireturn, 1) := by decide +kernel
theorem dX3_stateBehind_182 : decode cX3_stateBehind 182 = .ok (.iconst (-1), 1) := by decide +kernel
theorem dX3_stateBehind_183 : decode cX3_stateBehind 183 = .ok (.ireturn, 1) := by decide +kernel
theorem sp_X3_stateBehind {q c : Nat} {x y : Int32} {D : Mem} (hx : x = nI q) (hq : q < 10) (hy : y = nI c) (hc : c < 1000) : Ei 2 j_X3_stateBehind [.int x, .int y] D (stI (dl q c)) (D) := by
  refine E.start 0 (ls := [some (.int x), some (.int y)]) (by decide +kernel) (Nat.le_of_ble_eq_true rfl) rfl (Nat.le_refl _) (Nat.le_refl _) ?_
  subst hx; subst hy
  refine X_iload_n (nx := 1) dX3_stateBehind_0 rfl rfl rfl ?_
  rcases q10 hq with rfl | rfl | rfl | rfl | rfl | rfl | rfl | rfl | rfl | rfl
  · skip
    refine X_top (y := 0) (rfl) ?_
    refine X_tableIn (tgt := 56) (off := 55) dX3_stateBehind_1 (by decide) (by decide) (by decide) rfl ?_
    refine X_iload_n (nx := 57) dX3_stateBehind_56 rfl rfl rfl ?_
    refine Y_Si1 (nx := 60) dX3_stateBehind_57 rfl ml_RX3_33 kj_X3_stateBehindFirst ks_X3_stateBehindFirst (sp_X3_stateBehindFirst rfl hc) (by first | decide | omega) (by exact Nat.le_of_ble_eq_true rfl) ?_
    exact Y_reti dX3_stateBehind_60 (Or.inl rfl) (by unfold dl; rfl) rfl
  · skip
    refine X_top (y := 1) (rfl) ?_
    refine X_tableIn (tgt := 61) (off := 60) dX3_stateBehind_1 (by decide) (by decide) (by decide) rfl ?_
    refine X_iload_n (nx := 62) dX3_stateBehind_61 rfl rfl rfl ?_
    refine Y_Si1 (nx := 65) dX3_stateBehind_62 rfl ml_RX3_36 kj_X3_isDigit ks_X3_isDigit (sp_X3_isDigit rfl hc) (by first | decide | omega) (by exact Nat.le_of_ble_eq_true rfl) ?_
    refine X_if_eq (tgt := 72) (nx := 68) dX3_stateBehind_65 rfl rfl (fun h65 => ?_) (fun h65 => ?_)
    · skip
      refine X_iconst (v := -1) (nx := 73) dX3_stateBehind_72 rfl rfl ?_
      exact Y_reti dX3_stateBehind_73 (Or.inl rfl) (by first | exact of_dl (r := 2) (by simp [dl, b2i_t.mp h65]) rfl | exact of_dl (r := 3) (by simp [dl, b2i_t.mp h65]) rfl | exact of_dl (r := 7) (by simp [dl, b2i_t.mp h65]) rfl | exact of_dl (r := 8) (by simp [dl, b2i_t.mp h65]) rfl | exact of_dl (r := 9) (by simp [dl, b2i_t.mp h65]) rfl | exact of_dl (r := 10) (by simp [dl, b2i_f.mp h65]) rfl) rfl
    · skip
      refine X_iconst (v := 2) (nx := 69) dX3_stateBehind_68 rfl rfl ?_
      refine X_goto (tgt := 73) dX3_stateBehind_69 rfl ?_
      exact Y_reti dX3_stateBehind_73 (Or.inl rfl) (by first | exact of_dl (r := 2) (by simp [dl, b2i_t.mp h65]) rfl | exact of_dl (r := 3) (by simp [dl, b2i_t.mp h65]) rfl | exact of_dl (r := 7) (by simp [dl, b2i_t.mp h65]) rfl | exact of_dl (r := 8) (by simp [dl, b2i_t.mp h65]) rfl | exact of_dl (r := 9) (by simp [dl, b2i_t.mp h65]) rfl | exact of_dl (r := 10) (by simp [dl, b2i_f.mp h65]) rfl) rfl
  · skip
    refine X_top (y := 2) (rfl) ?_
    refine X_tableIn (tgt := 74) (off := 73) dX3_stateBehind_1 (by decide) (by decide) (by decide) rfl ?_
    refine X_iload_n (nx := 75) dX3_stateBehind_74 rfl rfl rfl ?_
    refine Y_Si1 (nx := 78) dX3_stateBehind_75 rfl ml_RX3_36 kj_X3_isDigit ks_X3_isDigit (sp_X3_isDigit rfl hc) (by first | decide | omega) (by exact Nat.le_of_ble_eq_true rfl) ?_
    refine X_if_eq (tgt := 85) (nx := 81) dX3_stateBehind_78 rfl rfl (fun h78 => ?_) (fun h78 => ?_)
    · skip
      refine X_iconst (v := -1) (nx := 86) dX3_stateBehind_85 rfl rfl ?_
      exact Y_reti dX3_stateBehind_86 (Or.inl rfl) (by first | exact of_dl (r := 2) (by simp [dl, b2i_t.mp h78]) rfl | exact of_dl (r := 3) (by simp [dl, b2i_t.mp h78]) rfl | exact of_dl (r := 7) (by simp [dl, b2i_t.mp h78]) rfl | exact of_dl (r := 8) (by simp [dl, b2i_t.mp h78]) rfl | exact of_dl (r := 9) (by simp [dl, b2i_t.mp h78]) rfl | exact of_dl (r := 10) (by simp [dl, b2i_f.mp h78]) rfl) rfl
    · skip
      refine X_iconst (v := 3) (nx := 82) dX3_stateBehind_81 rfl rfl ?_
      refine X_goto (tgt := 86) dX3_stateBehind_82 rfl ?_
      exact Y_reti dX3_stateBehind_86 (Or.inl rfl) (by first | exact of_dl (r := 2) (by simp [dl, b2i_t.mp h78]) rfl | exact of_dl (r := 3) (by simp [dl, b2i_t.mp h78]) rfl | exact of_dl (r := 7) (by simp [dl, b2i_t.mp h78]) rfl | exact of_dl (r := 8) (by simp [dl, b2i_t.mp h78]) rfl | exact of_dl (r := 9) (by simp [dl, b2i_t.mp h78]) rfl | exact of_dl (r := 10) (by simp [dl, b2i_f.mp h78]) rfl) rfl
  · skip
    refine X_top (y := 3) (rfl) ?_
    refine X_tableIn (tgt := 87) (off := 86) dX3_stateBehind_1 (by decide) (by decide) (by decide) rfl ?_
    refine X_iload_n (nx := 88) dX3_stateBehind_87 rfl rfl rfl ?_
    refine X_bipush (v := nI 47) (nx := 90) dX3_stateBehind_88 rfl rfl ?_
    refine X_icmp_ne (tgt := 97) (nx := 93) dX3_stateBehind_90 rfl rfl (fun h90 => ?_) (fun h90 => ?_)
    · skip
      rw [nI_eq (by omega) (by omega)] at h90
      refine X_iload_n (nx := 98) dX3_stateBehind_97 rfl rfl rfl ?_
      refine Y_Si1 (nx := 101) dX3_stateBehind_98 rfl ml_RX3_40 kj_X3_stateBehindClose ks_X3_stateBehindClose (sp_X3_stateBehindClose rfl hc) (by first | decide | omega) (by exact Nat.le_of_ble_eq_true rfl) ?_
      exact Y_reti dX3_stateBehind_101 (Or.inl rfl) (by first | exact of_dl (r := 4) (by simp [dl, h90]) rfl | exact of_dl (r := if c = 59 then 0 else 10) (by simp [dl, h90]) rfl) rfl
    · skip
      rw [nI_eq (by omega) (by omega)] at h90
      refine X_iconst (v := 4) (nx := 94) dX3_stateBehind_93 rfl rfl ?_
      refine X_goto (tgt := 101) dX3_stateBehind_94 rfl ?_
      exact Y_reti dX3_stateBehind_101 (Or.inl rfl) (by first | exact of_dl (r := 4) (by simp [dl, h90]) rfl | exact of_dl (r := if c = 59 then 0 else 10) (by simp [dl, h90]) rfl) rfl
  · skip
    refine X_top (y := 4) (rfl) ?_
    refine X_tableIn (tgt := 102) (off := 101) dX3_stateBehind_1 (by decide) (by decide) (by decide) rfl ?_
    refine X_iload_n (nx := 103) dX3_stateBehind_102 rfl rfl rfl ?_
    refine Y_Si1 (nx := 106) dX3_stateBehind_103 rfl ml_RX3_43 kj_X3_isNamed ks_X3_isNamed (sp_X3_isNamed rfl hc) (by first | decide | omega) (by exact Nat.le_of_ble_eq_true rfl) ?_
    refine X_if_eq (tgt := 111) (nx := 109) dX3_stateBehind_106 rfl rfl (fun h106 => ?_) (fun h106 => ?_)
    · skip
      refine X_iload_n (nx := 112) dX3_stateBehind_111 rfl rfl rfl ?_
      refine X_bipush (v := nI 42) (nx := 114) dX3_stateBehind_112 rfl rfl ?_
      refine X_icmp_eq (tgt := 129) (nx := 117) dX3_stateBehind_114 rfl rfl (fun h114 => ?_) (fun h114 => ?_)
      · skip
        rw [nI_eq (by omega) (by omega)] at h114
        refine X_iconst (v := 3) (nx := 130) dX3_stateBehind_129 rfl rfl ?_
        refine X_goto (tgt := 134) dX3_stateBehind_130 rfl ?_
        exact Y_reti dX3_stateBehind_134 (Or.inl rfl) (by have e := b2i_f.mp h106; first | exact of_dl (r := 3) (by simp only [dl, e]; simp; omega) rfl | exact of_dl (r := 10) (by simp only [dl, e]; simp; omega) rfl) rfl
      · skip
        rw [nI_eq (by omega) (by omega)] at h114
        refine X_iload_n (nx := 118) dX3_stateBehind_117 rfl rfl rfl ?_
        refine X_bipush (v := nI 97) (nx := 120) dX3_stateBehind_118 rfl rfl ?_
        refine X_icmp_lt (tgt := 133) (nx := 123) dX3_stateBehind_120 rfl rfl (fun h120 => ?_) (fun h120 => ?_)
        · skip
          rw [nI_ltI (by omega) (by omega)] at h120
          refine X_iconst (v := -1) (nx := 134) dX3_stateBehind_133 rfl rfl ?_
          exact Y_reti dX3_stateBehind_134 (Or.inl rfl) (by have e := b2i_f.mp h106; first | exact of_dl (r := 3) (by simp only [dl, e]; simp; omega) rfl | exact of_dl (r := 10) (by simp only [dl, e]; simp; omega) rfl) rfl
        · skip
          rw [nI_ltI (by omega) (by omega)] at h120
          refine X_iload_n (nx := 124) dX3_stateBehind_123 rfl rfl rfl ?_
          refine X_bipush (v := nI 100) (nx := 126) dX3_stateBehind_124 rfl rfl ?_
          refine X_icmp_gt (tgt := 133) (nx := 129) dX3_stateBehind_126 rfl rfl (fun h126 => ?_) (fun h126 => ?_)
          · skip
            rw [nI_ltI (by omega) (by omega)] at h126
            refine X_iconst (v := -1) (nx := 134) dX3_stateBehind_133 rfl rfl ?_
            exact Y_reti dX3_stateBehind_134 (Or.inl rfl) (by have e := b2i_f.mp h106; first | exact of_dl (r := 3) (by simp only [dl, e]; simp; omega) rfl | exact of_dl (r := 10) (by simp only [dl, e]; simp; omega) rfl) rfl
          · skip
            rw [nI_ltI (by omega) (by omega)] at h126
            refine X_iconst (v := 3) (nx := 130) dX3_stateBehind_129 rfl rfl ?_
            refine X_goto (tgt := 134) dX3_stateBehind_130 rfl ?_
            exact Y_reti dX3_stateBehind_134 (Or.inl rfl) (by have e := b2i_f.mp h106; first | exact of_dl (r := 3) (by simp only [dl, e]; simp; omega) rfl | exact of_dl (r := 10) (by simp only [dl, e]; simp; omega) rfl) rfl
    · skip
      refine X_iconst (v := 5) (nx := 110) dX3_stateBehind_109 rfl rfl ?_
      exact Y_reti dX3_stateBehind_110 (Or.inl rfl) (of_dl (r := 5) (by simp [dl, b2i_t.mp h106]) rfl) rfl
  · skip
    refine X_top (y := 5) (rfl) ?_
    refine X_tableIn (tgt := 74) (off := 73) dX3_stateBehind_1 (by decide) (by decide) (by decide) rfl ?_
    refine X_iload_n (nx := 75) dX3_stateBehind_74 rfl rfl rfl ?_
    refine Y_Si1 (nx := 78) dX3_stateBehind_75 rfl ml_RX3_36 kj_X3_isDigit ks_X3_isDigit (sp_X3_isDigit rfl hc) (by first | decide | omega) (by exact Nat.le_of_ble_eq_true rfl) ?_
    refine X_if_eq (tgt := 85) (nx := 81) dX3_stateBehind_78 rfl rfl (fun h78 => ?_) (fun h78 => ?_)
    · skip
      refine X_iconst (v := -1) (nx := 86) dX3_stateBehind_85 rfl rfl ?_
      exact Y_reti dX3_stateBehind_86 (Or.inl rfl) (by first | exact of_dl (r := 2) (by simp [dl, b2i_t.mp h78]) rfl | exact of_dl (r := 3) (by simp [dl, b2i_t.mp h78]) rfl | exact of_dl (r := 7) (by simp [dl, b2i_t.mp h78]) rfl | exact of_dl (r := 8) (by simp [dl, b2i_t.mp h78]) rfl | exact of_dl (r := 9) (by simp [dl, b2i_t.mp h78]) rfl | exact of_dl (r := 10) (by simp [dl, b2i_f.mp h78]) rfl) rfl
    · skip
      refine X_iconst (v := 3) (nx := 82) dX3_stateBehind_81 rfl rfl ?_
      refine X_goto (tgt := 86) dX3_stateBehind_82 rfl ?_
      exact Y_reti dX3_stateBehind_86 (Or.inl rfl) (by first | exact of_dl (r := 2) (by simp [dl, b2i_t.mp h78]) rfl | exact of_dl (r := 3) (by simp [dl, b2i_t.mp h78]) rfl | exact of_dl (r := 7) (by simp [dl, b2i_t.mp h78]) rfl | exact of_dl (r := 8) (by simp [dl, b2i_t.mp h78]) rfl | exact of_dl (r := 9) (by simp [dl, b2i_t.mp h78]) rfl | exact of_dl (r := 10) (by simp [dl, b2i_f.mp h78]) rfl) rfl
  · skip
    refine X_top (y := 6) (rfl) ?_
    refine X_tableIn (tgt := 135) (off := 134) dX3_stateBehind_1 (by decide) (by decide) (by decide) rfl ?_
    refine X_iload_n (nx := 136) dX3_stateBehind_135 rfl rfl rfl ?_
    refine Y_Si1 (nx := 139) dX3_stateBehind_136 rfl ml_RX3_36 kj_X3_isDigit ks_X3_isDigit (sp_X3_isDigit rfl hc) (by first | decide | omega) (by exact Nat.le_of_ble_eq_true rfl) ?_
    refine X_if_eq (tgt := 147) (nx := 142) dX3_stateBehind_139 rfl rfl (fun h139 => ?_) (fun h139 => ?_)
    · skip
      refine X_iconst (v := -1) (nx := 148) dX3_stateBehind_147 rfl rfl ?_
      exact Y_reti dX3_stateBehind_148 (Or.inl rfl) (by first | exact of_dl (r := 2) (by simp [dl, b2i_t.mp h139]) rfl | exact of_dl (r := 3) (by simp [dl, b2i_t.mp h139]) rfl | exact of_dl (r := 7) (by simp [dl, b2i_t.mp h139]) rfl | exact of_dl (r := 8) (by simp [dl, b2i_t.mp h139]) rfl | exact of_dl (r := 9) (by simp [dl, b2i_t.mp h139]) rfl | exact of_dl (r := 10) (by simp [dl, b2i_f.mp h139]) rfl) rfl
    · skip
      refine X_bipush (v := 7) (nx := 144) dX3_stateBehind_142 rfl rfl ?_
      refine X_goto (tgt := 148) dX3_stateBehind_144 rfl ?_
      exact Y_reti dX3_stateBehind_148 (Or.inl rfl) (by first | exact of_dl (r := 2) (by simp [dl, b2i_t.mp h139]) rfl | exact of_dl (r := 3) (by simp [dl, b2i_t.mp h139]) rfl | exact of_dl (r := 7) (by simp [dl, b2i_t.mp h139]) rfl | exact of_dl (r := 8) (by simp [dl, b2i_t.mp h139]) rfl | exact of_dl (r := 9) (by simp [dl, b2i_t.mp h139]) rfl | exact of_dl (r := 10) (by simp [dl, b2i_f.mp h139]) rfl) rfl
  · skip
    refine X_top (y := 7) (rfl) ?_
    refine X_tableIn (tgt := 149) (off := 148) dX3_stateBehind_1 (by decide) (by decide) (by decide) rfl ?_
    refine X_iload_n (nx := 150) dX3_stateBehind_149 rfl rfl rfl ?_
    refine Y_Si1 (nx := 153) dX3_stateBehind_150 rfl ml_RX3_36 kj_X3_isDigit ks_X3_isDigit (sp_X3_isDigit rfl hc) (by first | decide | omega) (by exact Nat.le_of_ble_eq_true rfl) ?_
    refine X_if_eq (tgt := 161) (nx := 156) dX3_stateBehind_153 rfl rfl (fun h153 => ?_) (fun h153 => ?_)
    · skip
      refine X_iconst (v := -1) (nx := 162) dX3_stateBehind_161 rfl rfl ?_
      exact Y_reti dX3_stateBehind_162 (Or.inl rfl) (by first | exact of_dl (r := 2) (by simp [dl, b2i_t.mp h153]) rfl | exact of_dl (r := 3) (by simp [dl, b2i_t.mp h153]) rfl | exact of_dl (r := 7) (by simp [dl, b2i_t.mp h153]) rfl | exact of_dl (r := 8) (by simp [dl, b2i_t.mp h153]) rfl | exact of_dl (r := 9) (by simp [dl, b2i_t.mp h153]) rfl | exact of_dl (r := 10) (by simp [dl, b2i_f.mp h153]) rfl) rfl
    · skip
      refine X_bipush (v := 8) (nx := 158) dX3_stateBehind_156 rfl rfl ?_
      refine X_goto (tgt := 162) dX3_stateBehind_158 rfl ?_
      exact Y_reti dX3_stateBehind_162 (Or.inl rfl) (by first | exact of_dl (r := 2) (by simp [dl, b2i_t.mp h153]) rfl | exact of_dl (r := 3) (by simp [dl, b2i_t.mp h153]) rfl | exact of_dl (r := 7) (by simp [dl, b2i_t.mp h153]) rfl | exact of_dl (r := 8) (by simp [dl, b2i_t.mp h153]) rfl | exact of_dl (r := 9) (by simp [dl, b2i_t.mp h153]) rfl | exact of_dl (r := 10) (by simp [dl, b2i_f.mp h153]) rfl) rfl
  · skip
    refine X_top (y := 8) (rfl) ?_
    refine X_tableIn (tgt := 163) (off := 162) dX3_stateBehind_1 (by decide) (by decide) (by decide) rfl ?_
    refine X_iload_n (nx := 164) dX3_stateBehind_163 rfl rfl rfl ?_
    refine Y_Si1 (nx := 167) dX3_stateBehind_164 rfl ml_RX3_36 kj_X3_isDigit ks_X3_isDigit (sp_X3_isDigit rfl hc) (by first | decide | omega) (by exact Nat.le_of_ble_eq_true rfl) ?_
    refine X_if_eq (tgt := 175) (nx := 170) dX3_stateBehind_167 rfl rfl (fun h167 => ?_) (fun h167 => ?_)
    · skip
      refine X_iconst (v := -1) (nx := 176) dX3_stateBehind_175 rfl rfl ?_
      exact Y_reti dX3_stateBehind_176 (Or.inl rfl) (by first | exact of_dl (r := 2) (by simp [dl, b2i_t.mp h167]) rfl | exact of_dl (r := 3) (by simp [dl, b2i_t.mp h167]) rfl | exact of_dl (r := 7) (by simp [dl, b2i_t.mp h167]) rfl | exact of_dl (r := 8) (by simp [dl, b2i_t.mp h167]) rfl | exact of_dl (r := 9) (by simp [dl, b2i_t.mp h167]) rfl | exact of_dl (r := 10) (by simp [dl, b2i_f.mp h167]) rfl) rfl
    · skip
      refine X_bipush (v := 9) (nx := 172) dX3_stateBehind_170 rfl rfl ?_
      refine X_goto (tgt := 176) dX3_stateBehind_172 rfl ?_
      exact Y_reti dX3_stateBehind_176 (Or.inl rfl) (by first | exact of_dl (r := 2) (by simp [dl, b2i_t.mp h167]) rfl | exact of_dl (r := 3) (by simp [dl, b2i_t.mp h167]) rfl | exact of_dl (r := 7) (by simp [dl, b2i_t.mp h167]) rfl | exact of_dl (r := 8) (by simp [dl, b2i_t.mp h167]) rfl | exact of_dl (r := 9) (by simp [dl, b2i_t.mp h167]) rfl | exact of_dl (r := 10) (by simp [dl, b2i_f.mp h167]) rfl) rfl
  · skip
    refine X_top (y := 9) (rfl) ?_
    refine X_tableIn (tgt := 177) (off := 176) dX3_stateBehind_1 (by decide) (by decide) (by decide) rfl ?_
    refine X_iload_n (nx := 178) dX3_stateBehind_177 rfl rfl rfl ?_
    refine Y_Si1 (nx := 181) dX3_stateBehind_178 rfl ml_RX3_40 kj_X3_stateBehindClose ks_X3_stateBehindClose (sp_X3_stateBehindClose rfl hc) (by first | decide | omega) (by exact Nat.le_of_ble_eq_true rfl) ?_
    exact Y_reti dX3_stateBehind_181 (Or.inl rfl) (by unfold dl; rfl) rfl
/-- the state behind the first k signs -/
def qs (t : List Nat) : Nat → Nat
  | 0 => 0
  | k + 1 => dl (qs t k) (t.getD k 0)
theorem qs_le (t : List Nat) : ∀ k, qs t k ≤ 10
  | 0 => Nat.zero_le _
  | k + 1 => dl_le _ _
/-- the place of the fault of form -/
def ffp (t : List Nat) : Option Nat := match fst_ (fun k => decide (qs t (k + 1) = 10)) 0 t.length with
  | some k => some k
  | none => if qs t t.length = 0 ∧ 0 < t.length then none else some t.length
theorem ffp_hit {t : List Nat} {i : Nat} (hi : i < t.length) (h : ∀ k, k ≤ i → qs t k ≠ 10) (h10 : qs t (i + 1) = 10) : ffp t = some i := by
  unfold ffp
  rw [fst_intro (p := fun k => decide (qs t (k + 1) = 10)) (k := i) (Nat.zero_le _) (by omega) (decide_eq_true h10) (fun x _ hx => decide_eq_false (h (x + 1) (by omega)))]
theorem ffp_end {t : List Nat} (h : ∀ k, k ≤ t.length → qs t k ≠ 10) : ffp t = if qs t t.length = 0 ∧ 0 < t.length then none else some t.length := by
  unfold ffp
  rw [fst_intro_none (p := fun k => decide (qs t (k + 1) = 10)) (fun x _ hx => decide_eq_false (h (x + 1) (by omega)))]
theorem stI_ne {q : Nat} (h : ¬ stI q = -1) : q ≠ 10 ∧ stI q = nI q := by
  by_cases e : q = 10
  · subst e; exact absurd rfl h
  · exact ⟨e, if_neg e⟩
theorem stI_m1 {q : Nat} (h : stI q = -1) (hq : q ≤ 10) : q = 10 := by
  by_cases e : q = 10
  · exact e
  · exfalso
    rw [show stI q = nI q from if_neg e] at h
    have := nI_neg (n := q) (by omega)
    rw [h] at this
    exact this (by decide)
theorem getD_lt {l : List Nat} {k b : Nat} (h : ∀ x ∈ l, x < b) (hk : k < l.length) : l.getD k 0 < b := h _ (getD_in hk)
theorem dX3_placeOfFormFault_0 : decode cX3_placeOfFormFault 0 = .ok (.iconst 0, 1) := by decide +kernel
theorem dX3_placeOfFormFault_1 : decode cX3_placeOfFormFault 1 = .ok (.istore_n 1, 1) := by decide +kernel
theorem dX3_placeOfFormFault_2 : decode cX3_placeOfFormFault 2 = .ok (.iconst 0, 1) := by decide +kernel
theorem dX3_placeOfFormFault_3 : decode cX3_placeOfFormFault 3 = .ok (.istore_n 2, 1) := by decide +kernel
theorem dX3_placeOfFormFault_4 : decode cX3_placeOfFormFault 4 = .ok (.iload_n 2, 1) := by decide +kernel
theorem dX3_placeOfFormFault_5 : decode cX3_placeOfFormFault 5 = .ok (.aload_n 0, 1) := by decide +kernel
theorem dX3_placeOfFormFault_6 : decode cX3_placeOfFormFault 6 = .ok (.getfield 15, 3) := by decide +kernel
theorem dX3_placeOfFormFault_9 : decode cX3_placeOfFormFault 9 = .ok (.if_icmp .ge 26, 3) := by decide +kernel
theorem dX3_placeOfFormFault_12 : decode cX3_placeOfFormFault 12 = .ok (.iload_n 1, 1) := by decide +kernel
theorem dX3_placeOfFormFault_13 : decode cX3_placeOfFormFault 13 = .ok (.aload_n 0, 1) := by decide +kernel
theorem dX3_placeOfFormFault_14 : decode cX3_placeOfFormFault 14 = .ok (.iload_n 2, 1) := by decide +kernel
theorem dX3_placeOfFormFault_15 : decode cX3_placeOfFormFault 15 = .ok (.invokevirtual 21, 3) := by decide +kernel
theorem dX3_placeOfFormFault_18 : decode cX3_placeOfFormFault 18 = .ok (.invokestatic 29, 3) := by decide +kernel
theorem dX3_placeOfFormFault_21 : decode cX3_placeOfFormFault 21 = .ok (.istore_n 1, 1) := by decide +kernel
theorem dX3_placeOfFormFault_22 : decode cX3_placeOfFormFault 22 = .ok (.iload_n 1, 1) := by decide +kernel
theorem dX3_placeOfFormFault_23 : decode cX3_placeOfFormFault 23 = .ok (.iconst (-1), 1) := by decide +kernel
theorem dX3_placeOfFormFault_24 : decode cX3_placeOfFormFault 24 = .ok (.if_icmp .ne 5, 3) := by decide +kernel
theorem dX3_placeOfFormFault_27 : decode cX3_placeOfFormFault 27 = .ok (.iload_n 2, 1) := by decide +kernel
theorem dX3_placeOfFormFault_28 : decode cX3_placeOfFormFault 28 = .ok (.ireturn, 1) := by decide +kernel
theorem dX3_placeOfFormFault_29 : decode cX3_placeOfFormFault 29 = .ok (.iinc 2 1, 3) := by decide +kernel
theorem dX3_placeOfFormFault_32 : decode cX3_placeOfFormFault 32 = .ok (.goto (-28), 3) := by decide +kernel
theorem dX3_placeOfFormFault_35 : decode cX3_placeOfFormFault 35 = .ok (.iload_n 1, 1) := by decide +kernel
theorem dX3_placeOfFormFault_36 : decode cX3_placeOfFormFault 36 = .ok (.ifCond .ne 14, 3) := by decide +kernel
theorem dX3_placeOfFormFault_39 : decode cX3_placeOfFormFault 39 = .ok (.aload_n 0, 1) := by decide +kernel
theorem dX3_placeOfFormFault_40 : decode cX3_placeOfFormFault 40 = .ok (.getfield 15, 3) := by decide +kernel
theorem dX3_placeOfFormFault_43 : decode cX3_placeOfFormFault 43 = .ok (.ifCond .le 7, 3) := by decide +kernel
theorem dX3_placeOfFormFault_46 : decode cX3_placeOfFormFault 46 = .ok (.iconst 1, 1) := by decide +kernel
theorem dX3_placeOfFormFault_47 : decode cX3_placeOfFormFault 47 = .ok (.goto 4, 3) := by decide +kernel
theorem dX3_placeOfFormFault_50 : decode cX3_placeOfFormFault 50 = .ok (.iconst 0, 1) := by decide +kernel
theorem dX3_placeOfFormFault_51 : decode cX3_placeOfFormFault 51 = .ok (.istore_n 2, 1) := by decide +kernel
theorem dX3_placeOfFormFault_52 : decode cX3_placeOfFormFault 52 = .ok (.iload_n 2, 1) := by decide +kernel
theorem dX3_placeOfFormFault_53 : decode cX3_placeOfFormFault 53 = .ok (.ifCond .eq 8, 3) := by decide +kernel
theorem dX3_placeOfFormFault_56 : decode cX3_placeOfFormFault 56 = .ok (.bipush (-9), 2) := by decide +kernel
theorem dX3_placeOfFormFault_58 : decode cX3_placeOfFormFault 58 = .ok (.goto 7, 3) := by decide +kernel
theorem dX3_placeOfFormFault_61 : decode cX3_placeOfFormFault 61 = .ok (.aload_n 0, 1) := by decide +kernel
theorem dX3_placeOfFormFault_62 : decode cX3_placeOfFormFault 62 = .ok (.getfield 15, 3) := by decide +kernel
theorem dX3_placeOfFormFault_65 : decode cX3_placeOfFormFault 65 = .ok (.ireturn, 1) := by decide +kernel
theorem lp_X3_placeOfFormFault {t : List Nat} {D : Mem} (hP : PIL D 96 t) (h256 : ∀ x ∈ t, x < 256) (hl : t.length < 200) : ∀ (m : Nat) (i : Nat), i + m = t.length → (∀ k, k ≤ i → qs t k ≠ 10) → X 3 138 j_X3_placeOfFormFault 4 [some (.ref 96), some (.int (nI (qs t i))), some (.int (nI i))] [] (138, P0, D) (fun r σ => r = [.int (opI (ffp t))] ∧ σ = wd D) := by
  intro m
  induction m with
  | zero =>
    intro i hi hq
    obtain rfl : i = t.length := (by omega)
    have hqi := hq t.length (Nat.le_refl _)
    have hqb := qs_le t t.length
    have hall := hq
    refine X_iload_n (nx := 5) dX3_placeOfFormFault_4 rfl rfl rfl ?_
    refine X_aload_n (nx := 6) dX3_placeOfFormFault_5 rfl rfl rfl ?_
    refine M_getI (nx := 9) dX3_placeOfFormFault_6 rfl fl_RX3_15 rfl (by first | assumption | rfl | decide | omega) (by first | assumption | rfl | decide | omega) ?_
    refine X_top (hP.2.1) ?_
    refine X_icmp_ge (tgt := 35) (nx := 12) dX3_placeOfFormFault_9 rfl rfl (fun h9 => ?_) (fun h9 => ?_)
    · skip
      refine X_iload_n (nx := 36) dX3_placeOfFormFault_35 rfl rfl rfl ?_
      refine X_if_ne (tgt := 50) (nx := 39) dX3_placeOfFormFault_36 rfl rfl (fun h36 => ?_) (fun h36 => ?_)
      · skip
        rw [nI_0' (by omega)] at h36
        refine X_iconst (v := 0) (nx := 51) dX3_placeOfFormFault_50 rfl rfl ?_
        refine X_istore_n (i := 2) (nx := 52) dX3_placeOfFormFault_51 rfl rfl (by decide) rfl (st_s (st_s (st_0))) ?_
        refine X_iload_n (nx := 53) dX3_placeOfFormFault_52 rfl rfl rfl ?_
        refine X_if_eq (tgt := 61) (nx := 56) dX3_placeOfFormFault_53 rfl rfl (fun h53 => ?_) (fun h53 => ?_)
        · skip
          refine X_aload_n (nx := 62) dX3_placeOfFormFault_61 rfl rfl rfl ?_
          refine M_getI (nx := 65) dX3_placeOfFormFault_62 rfl fl_RX3_15 rfl (by first | assumption | rfl | decide | omega) (by first | assumption | rfl | decide | omega) ?_
          refine X_top (hP.2.1) ?_
          exact Y_reti dX3_placeOfFormFault_65 (Or.inl rfl) (by rw [ffp_end hall]; first | (rw [if_neg (by omega)]; rfl) | (rw [if_pos (by omega)]; rfl)) rfl
        · exact absurd h53 (by decide)
      · skip
        rw [nI_0' (by omega)] at h36
        refine X_aload_n (nx := 40) dX3_placeOfFormFault_39 rfl rfl rfl ?_
        refine M_getI (nx := 43) dX3_placeOfFormFault_40 rfl fl_RX3_15 rfl (by first | assumption | rfl | decide | omega) (by first | assumption | rfl | decide | omega) ?_
        refine X_top (hP.2.1) ?_
        refine X_if_le (tgt := 50) (nx := 46) dX3_placeOfFormFault_43 rfl rfl (fun h43 => ?_) (fun h43 => ?_)
        · skip
          rw [show (0 : Int32) = nI 0 from rfl] at h43
          rw [nI_leI (by omega) (by omega)] at h43
          refine X_iconst (v := 0) (nx := 51) dX3_placeOfFormFault_50 rfl rfl ?_
          refine X_istore_n (i := 2) (nx := 52) dX3_placeOfFormFault_51 rfl rfl (by decide) rfl (st_s (st_s (st_0))) ?_
          refine X_iload_n (nx := 53) dX3_placeOfFormFault_52 rfl rfl rfl ?_
          refine X_if_eq (tgt := 61) (nx := 56) dX3_placeOfFormFault_53 rfl rfl (fun h53 => ?_) (fun h53 => ?_)
          · skip
            refine X_aload_n (nx := 62) dX3_placeOfFormFault_61 rfl rfl rfl ?_
            refine M_getI (nx := 65) dX3_placeOfFormFault_62 rfl fl_RX3_15 rfl (by first | assumption | rfl | decide | omega) (by first | assumption | rfl | decide | omega) ?_
            refine X_top (hP.2.1) ?_
            exact Y_reti dX3_placeOfFormFault_65 (Or.inl rfl) (by rw [ffp_end hall]; first | (rw [if_neg (by omega)]; rfl) | (rw [if_pos (by omega)]; rfl)) rfl
          · exact absurd h53 (by decide)
        · skip
          rw [show (0 : Int32) = nI 0 from rfl] at h43
          rw [nI_leI (by omega) (by omega)] at h43
          refine X_iconst (v := 1) (nx := 47) dX3_placeOfFormFault_46 rfl rfl ?_
          refine X_goto (tgt := 51) dX3_placeOfFormFault_47 rfl ?_
          refine X_istore_n (i := 2) (nx := 52) dX3_placeOfFormFault_51 rfl rfl (by decide) rfl (st_s (st_s (st_0))) ?_
          refine X_iload_n (nx := 53) dX3_placeOfFormFault_52 rfl rfl rfl ?_
          refine X_if_eq (tgt := 61) (nx := 56) dX3_placeOfFormFault_53 rfl rfl (fun h53 => ?_) (fun h53 => ?_)
          · exact absurd h53 (by decide)
          · skip
            refine X_bipush (v := -9) (nx := 58) dX3_placeOfFormFault_56 rfl rfl ?_
            refine X_goto (tgt := 65) dX3_placeOfFormFault_58 rfl ?_
            exact Y_reti dX3_placeOfFormFault_65 (Or.inl rfl) (by rw [ffp_end hall]; first | (rw [if_neg (by omega)]; rfl) | (rw [if_pos (by omega)]; rfl)) rfl
    · exact absurd h9 (fun q => q (nI_le (by omega) (by omega)))
  | succ m ih =>
    intro i hi hq
    have hqi := hq i (Nat.le_refl _)
    have hqb := qs_le t i
    refine X_iload_n (nx := 5) dX3_placeOfFormFault_4 rfl rfl rfl ?_
    refine X_aload_n (nx := 6) dX3_placeOfFormFault_5 rfl rfl rfl ?_
    refine M_getI (nx := 9) dX3_placeOfFormFault_6 rfl fl_RX3_15 rfl (by first | assumption | rfl | decide | omega) (by first | assumption | rfl | decide | omega) ?_
    refine X_top (hP.2.1) ?_
    refine X_icmp_ge (tgt := 35) (nx := 12) dX3_placeOfFormFault_9 rfl rfl (fun h9 => ?_) (fun h9 => ?_)
    · exact absurd h9 (nI_ge (by omega) (by omega))
    · skip
      refine X_iload_n (nx := 13) dX3_placeOfFormFault_12 rfl rfl rfl ?_
      refine X_aload_n (nx := 14) dX3_placeOfFormFault_13 rfl rfl rfl ?_
      refine X_iload_n (nx := 15) dX3_placeOfFormFault_14 rfl rfl rfl ?_
      refine Y_Vi1 (nx := 18) dX3_placeOfFormFault_15 rfl ml_RX3_21 kj_X2_at kv_X2_at (sp_X2_at (Or.inl rfl) hP rfl (by omega)) (by first | assumption | rfl | decide | omega) (by first | assumption | rfl | decide | omega) (by decide) rfl (by first | decide | omega) (by exact Nat.le_of_ble_eq_true rfl) ?_
      refine Y_Si2 (nx := 21) dX3_placeOfFormFault_18 rfl ml_RX3_29 kj_X3_stateBehind ks_X3_stateBehind (sp_X3_stateBehind rfl (by omega) rfl (by have := getD_lt h256 (k := i) (by omega); omega)) (by first | decide | omega) (by exact Nat.le_of_ble_eq_true rfl) ?_
      refine X_istore_n (i := 1) (nx := 22) dX3_placeOfFormFault_21 rfl rfl (by decide) rfl (st_s (st_0)) ?_
      refine X_iload_n (nx := 23) dX3_placeOfFormFault_22 rfl rfl rfl ?_
      refine X_iconst (v := -1) (nx := 24) dX3_placeOfFormFault_23 rfl rfl ?_
      refine X_icmp_ne (tgt := 29) (nx := 27) dX3_placeOfFormFault_24 rfl rfl (fun h24 => ?_) (fun h24 => ?_)
      · skip
        have e24 := stI_ne h24
        rw [e24.2]
        refine X_iinc (nx := 32) dX3_placeOfFormFault_29 rfl (by decide) rfl (by first | exact ii1 _ | rfl) rfl (st_s (st_s (st_0))) ?_
        refine X_goto (tgt := 4) dX3_placeOfFormFault_32 rfl ?_
        exact ih (i + 1) (by omega) (fun k hk => by
          by_cases e : k ≤ i
          · exact hq k e
          · obtain rfl : k = i + 1 := (by omega)
            exact e24.1)
      · skip
        have e24 : qs t (i + 1) = 10 := stI_m1 h24 (dl_le _ _)
        refine X_iload_n (nx := 28) dX3_placeOfFormFault_27 rfl rfl rfl ?_
        exact Y_reti dX3_placeOfFormFault_28 (Or.inl rfl) (by rw [ffp_hit (by omega) hq e24]; rfl) rfl
theorem sp_X3_placeOfFormFault {t : List Nat} {D : Mem} (hP : PIL D 96 t) (h256 : ∀ x ∈ t, x < 256) (hl : t.length < 200) : Ei 3 j_X3_placeOfFormFault [.ref 96] D (opI (ffp t)) (D) := by
  refine E.start 2 (ls := [some (.ref 96), none, none]) (by decide +kernel) (Nat.le_of_ble_eq_true rfl) rfl (Nat.le_refl _) (Nat.le_refl _) ?_
  refine X_iconst (v := 0) (nx := 1) dX3_placeOfFormFault_0 rfl rfl ?_
  refine X_istore_n (i := 1) (nx := 2) dX3_placeOfFormFault_1 rfl rfl (by decide) rfl (st_s (st_0)) ?_
  refine X_iconst (v := 0) (nx := 3) dX3_placeOfFormFault_2 rfl rfl ?_
  refine X_istore_n (i := 2) (nx := 4) dX3_placeOfFormFault_3 rfl rfl (by decide) rfl (st_s (st_s (st_0))) ?_
  exact lp_X3_placeOfFormFault hP h256 hl t.length 0 (by omega) (fun k hk => by obtain rfl : k = 0 := (by omega); exact (by decide : (0 : Nat) ≠ 10))
