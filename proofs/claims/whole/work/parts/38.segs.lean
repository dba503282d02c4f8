/-! TOLD SIGNS: segments -/
/-- a segment's number of its sign and its parameter -/
def sgo (c d : Nat) : Nat := if c = 60 then 10 + d else if c = 62 then 20 + d else if c = 58 then 30 + d else if c = 42 then 40 else c - 97
/-- behind a slash at k the signs of a segment -/
def sfm (t : List Nat) (k : Nat) : Prop := k + 1 < t.length ∧ ((nam (t.getD (k + 1) 0) = true ∧ k + 2 < t.length ∧ dig (t.getD (k + 2) 0) = true) ∨ (nam (t.getD (k + 1) 0) = false ∧ (t.getD (k + 1) 0 = 42 ∨ (97 ≤ t.getD (k + 1) 0 ∧ t.getD (k + 1) 0 ≤ 100))))
/-- whether the segment of a slash at i may come behind s -/
def okq (t : List Nat) (i : Nat) (s : List Nat) : Bool :=
  (!nam (t.getD (i + 1) 0) || (decide (t.getD (i + 2) 0 - 48 < 4) && (plOf s (t.getD (i + 2) 0 - 48) 0 (pl s)).isNone)) && (decide (s.length < 4) && decide (pl s = s.length))
def rsg (t : List Nat) : Nat → Nat → List Nat → Option (List Nat)
  | _, 0, s => some s
  | i, m + 1, s => if t.getD i 0 = 47 then (if okq t i s = true then rsg t (i + 1) m (s ++ [sgo (t.getD (i + 1) 0) (t.getD (i + 2) 0 - 48)]) else none) else rsg t (i + 1) m s
theorem out5 (c : Nat) : c = 42 ∨ c = 58 ∨ c = 60 ∨ c = 62 ∨ (¬ c = 42 ∧ ¬ c = 58 ∧ ¬ c = 60 ∧ ¬ c = 62) := by omega
theorem off_5 {c : Nat} {d a b e f : Int} (hc : c < 1000) (h : ¬ c = 42 ∧ ¬ c = 58 ∧ ¬ c = 60 ∧ ¬ c = 62) : Op.lookupswitch.offset [((42 : Int), a), (58, b), (60, e), (62, f)] d (nI c).toInt = d := by
  rw [nI_toInt (by omega)]
  have h1 : ¬ ((42 : Int) = (c : Int)) := by omega
  have h2 : ¬ ((58 : Int) = (c : Int)) := by omega
  have h3 : ¬ ((60 : Int) = (c : Int)) := by omega
  have h4 : ¬ ((62 : Int) = (c : Int)) := by omega
  have g1 : ¬ ((c : Int) = 42) := by omega
  have g2 : ¬ ((c : Int) = 58) := by omega
  have g3 : ¬ ((c : Int) = 60) := by omega
  have g4 : ¬ ((c : Int) = 62) := by omega
  simp [Op.lookupswitch.offset, h1, h2, h3, h4, g1, g2, g3, g4]
theorem add_nI {a b : Nat} : nI a + nI b = nI (a + b) := nI_add a b
theorem dX3_segmentOf_0 : decode cX3_segmentOf 0 = .ok (.iload_n 0, 1) := by decide +kernel
theorem dX3_segmentOf_1 : decode cX3_segmentOf 1 = .ok (.lookupswitch 61 #[(42, 58), (58, 53), (60, 43), (62, 48)], 43) := by decide +kernel
theorem dX3_segmentOf_44 : decode cX3_segmentOf 44 = .ok (.bipush 10, 2) := by decide +kernel
theorem dX3_segmentOf_46 : decode cX3_segmentOf 46 = .ok (.iload_n 1, 1) := by decide +kernel
theorem dX3_segmentOf_47 : decode cX3_segmentOf 47 = .ok (.iadd, 1) := by decide +kernel
theorem dX3_segmentOf_48 : decode cX3_segmentOf 48 = .ok (.ireturn, 1) := by decide +kernel
theorem dX3_segmentOf_49 : decode cX3_segmentOf 49 = .ok (.bipush 20, 2) := by decide +kernel
theorem dX3_segmentOf_51 : decode cX3_segmentOf 51 = .ok (.iload_n 1, 1) := by decide +kernel
theorem dX3_segmentOf_52 : decode cX3_segmentOf 52 = .ok (.iadd, 1) := by decide +kernel
theorem dX3_segmentOf_53 : decode cX3_segmentOf 53 = .ok (.ireturn, 1) := by decide +kernel
theorem dX3_segmentOf_54 : decode cX3_segmentOf 54 = .ok (.bipush 30, 2) := by decide +kernel
theorem dX3_segmentOf_56 : decode cX3_segmentOf 56 = .ok (.iload_n 1, 1) := by decide +kernel
theorem dX3_segmentOf_57 : decode cX3_segmentOf 57 = .ok (.iadd, 1) := by decide +kernel
theorem dX3_segmentOf_58 : decode cX3_segmentOf 58 = .ok (.ireturn, 1) := by decide +kernel
theorem dX3_segmentOf_59 : decode cX3_segmentOf 59 = .ok (.bipush 40, 2) := by decide +kernel
theorem dX3_segmentOf_61 : decode cX3_segmentOf 61 = .ok (.ireturn, 1) := by decide +kernel
theorem dX3_segmentOf_62 : decode cX3_segmentOf 62 = .ok (.iload_n 0, 1) := by decide +kernel
theorem dX3_segmentOf_63 : decode cX3_segmentOf 63 = .ok (.bipush 97, 2) := by decide +kernel
theorem dX3_segmentOf_65 : decode cX3_segmentOf 65 = .ok (.isub, 1) := by decide +kernel
theorem dX3_segmentOf_66 : decode cX3_segmentOf 66 = .ok (.ireturn, 1) := by decide +kernel
theorem sp_X3_segmentOf {c d : Nat} {x y : Int32} {D : Mem} (hx : x = nI c) (hc : c < 1000) (hy : (nam c = true ∧ y = nI d) ∨ (nam c = false ∧ (c = 42 ∨ (97 ≤ c ∧ c ≤ 100)))) : Ei 1 j_X3_segmentOf [.int x, .int y] D (nI (sgo c d)) (D) := by
  refine E.start 0 (ls := [some (.int x), some (.int y)]) (by decide +kernel) (Nat.le_of_ble_eq_true rfl) rfl (Nat.le_refl _) (Nat.le_refl _) ?_
  subst hx
  refine X_iload_n (nx := 1) dX3_segmentOf_0 rfl rfl rfl ?_
  rcases out5 c with rfl | rfl | rfl | rfl | hno
  · skip
    refine X_top (y := 42) (rfl) ?_
    refine X_lookup (tgt := 59) (off := 58) dX3_segmentOf_1 (by decide) (by decide) rfl ?_
    refine X_bipush (v := 40) (nx := 61) dX3_segmentOf_59 rfl rfl ?_
    exact Y_reti dX3_segmentOf_61 (Or.inl rfl) rfl rfl
  · skip
    refine X_top (y := 58) (rfl) ?_
    refine X_lookup (tgt := 54) (off := 53) dX3_segmentOf_1 (by decide) (by decide) rfl ?_
    refine X_bipush (v := nI 30) (nx := 56) dX3_segmentOf_54 rfl rfl ?_
    refine X_iload_n (nx := 57) dX3_segmentOf_56 rfl rfl rfl ?_
    refine X_iadd (nx := 58) dX3_segmentOf_57 rfl ?_
    exact Y_reti dX3_segmentOf_58 (Or.inl rfl) (hy.elim (fun q => by rw [q.2]; exact nI_add _ _) (fun q => absurd q.1 (by decide))) rfl
  · skip
    refine X_top (y := 60) (rfl) ?_
    refine X_lookup (tgt := 44) (off := 43) dX3_segmentOf_1 (by decide) (by decide) rfl ?_
    refine X_bipush (v := nI 10) (nx := 46) dX3_segmentOf_44 rfl rfl ?_
    refine X_iload_n (nx := 47) dX3_segmentOf_46 rfl rfl rfl ?_
    refine X_iadd (nx := 48) dX3_segmentOf_47 rfl ?_
    exact Y_reti dX3_segmentOf_48 (Or.inl rfl) (hy.elim (fun q => by rw [q.2]; exact nI_add _ _) (fun q => absurd q.1 (by decide))) rfl
  · skip
    refine X_top (y := 62) (rfl) ?_
    refine X_lookup (tgt := 49) (off := 48) dX3_segmentOf_1 (by decide) (by decide) rfl ?_
    refine X_bipush (v := nI 20) (nx := 51) dX3_segmentOf_49 rfl rfl ?_
    refine X_iload_n (nx := 52) dX3_segmentOf_51 rfl rfl rfl ?_
    refine X_iadd (nx := 53) dX3_segmentOf_52 rfl ?_
    exact Y_reti dX3_segmentOf_53 (Or.inl rfl) (hy.elim (fun q => by rw [q.2]; exact nI_add _ _) (fun q => absurd q.1 (by decide))) rfl
  · skip
    refine X_lookup (tgt := 62) (off := 61) dX3_segmentOf_1 (by decide) (off_5 hc hno) rfl ?_
    refine X_iload_n (nx := 63) dX3_segmentOf_62 rfl rfl rfl ?_
    refine X_bipush (v := nI 97) (nx := 65) dX3_segmentOf_63 rfl rfl ?_
    refine X_isub (nx := 66) dX3_segmentOf_65 rfl ?_
    exact Y_reti dX3_segmentOf_66 (Or.inl rfl) (hy.elim (fun q => by exfalso; have := q.1; unfold nam at this; simp only [decide_eq_true_eq] at this; omega) (fun q => by rw [sub_nI (by omega)]; unfold sgo; rw [if_neg hno.2.2.1, if_neg hno.2.2.2, if_neg hno.2.1, if_neg hno.1])) rfl
theorem rem_ne9 : ∀ k, k < 10 → ¬ nI k = -9 := by decide
theorem lp_X4_placeOf9 {r : Nat} {s : List Nat} {D : Mem} (hr : isR r) (h : SEG D r s) : ∀ (m : Nat) (i : Nat) (o : Option Value), i + m = pl s → X 2 138 j_X4_placeOf 2 [some (.ref r), some (.int (-9)), some (.int (nI i)), o] [] (138, P0, D) (fun r σ => r = [.int (-9)] ∧ σ = wd D) := by
  intro m
  induction m with
  | zero =>
    intro i o hi
    obtain ⟨q1, q2, q3, q4, q5, q6⟩ := hr.facts
    have hb := h.1
    have hb2 := pl_le s
    refine X_iload_n (nx := 3) dX4_placeOf_2 rfl rfl rfl ?_
    refine X_aload_n (nx := 4) dX4_placeOf_3 rfl rfl rfl ?_
    refine M_getI (nx := 7) dX4_placeOf_4 rfl fl_RX4_29 rfl (by first | assumption | rfl | decide | omega) (by first | assumption | rfl | decide | omega) ?_
    refine X_top (h.2.2.1) ?_
    refine X_icmp_ge (tgt := 38) (nx := 10) dX4_placeOf_7 rfl rfl (fun h7 => ?_) (fun h7 => ?_)
    · skip
      refine X_bipush (v := -9) (nx := 40) dX4_placeOf_38 rfl rfl ?_
      exact Y_reti dX4_placeOf_40 (Or.inl rfl) rfl rfl
    · exact absurd h7 (fun q => q (nI_le (by omega) (by omega)))
  | succ m ih =>
    intro i o hi
    obtain ⟨q1, q2, q3, q4, q5, q6⟩ := hr.facts
    have hb := h.1
    have hb2 := pl_le s
    have hb3 : s.getD i 0 ≤ 40 := getD_le h.2.2.2.2
    refine X_iload_n (nx := 3) dX4_placeOf_2 rfl rfl rfl ?_
    refine X_aload_n (nx := 4) dX4_placeOf_3 rfl rfl rfl ?_
    refine M_getI (nx := 7) dX4_placeOf_4 rfl fl_RX4_29 rfl (by first | assumption | rfl | decide | omega) (by first | assumption | rfl | decide | omega) ?_
    refine X_top (h.2.2.1) ?_
    refine X_icmp_ge (tgt := 38) (nx := 10) dX4_placeOf_7 rfl rfl (fun h7 => ?_) (fun h7 => ?_)
    · exact absurd h7 (nI_ge (by omega) (by omega))
    · skip
      rw [nI_leI (by omega) (by omega)] at h7
      refine X_aload_n (nx := 11) dX4_placeOf_10 rfl rfl rfl ?_
      refine X_iload_n (nx := 12) dX4_placeOf_11 rfl rfl rfl ?_
      refine Y_Vi1 (nx := 15) dX4_placeOf_12 rfl ml_RX4_47 kj_X4_segmentAt kv_X4_segmentAt (sp_X4_segmentAt hr h rfl (by omega)) (by first | assumption | rfl | decide | omega) (by first | assumption | rfl | decide | omega) (by decide) rfl (by first | decide | omega) (by exact Nat.le_of_ble_eq_true rfl) ?_
      refine X_istore_n (i := 3) (nx := 16) dX4_placeOf_15 rfl rfl (by decide) rfl (st_s (st_s (st_s (st_0)))) ?_
      refine X_iload_n (nx := 17) dX4_placeOf_16 rfl rfl rfl ?_
      refine X_bipush (v := nI 10) (nx := 19) dX4_placeOf_17 rfl rfl ?_
      refine X_icmp_lt (tgt := 32) (nx := 22) dX4_placeOf_19 rfl rfl (fun h19 => ?_) (fun h19 => ?_)
      · skip
        rw [nI_ltI (by omega) (by omega)] at h19
        refine X_iinc (nx := 35) dX4_placeOf_32 rfl (by decide) rfl (by first | exact ii1 _ | rfl) rfl (st_s (st_s (st_0))) ?_
        refine X_goto (tgt := 2) dX4_placeOf_35 rfl ?_
        exact ih (i + 1) _ (by omega)
      · skip
        rw [nI_ltI (by omega) (by omega)] at h19
        refine X_iload_n (nx := 23) dX4_placeOf_22 rfl rfl rfl ?_
        refine X_bipush (v := 10) (nx := 25) dX4_placeOf_23 rfl rfl ?_
        refine X_irem (nx := 26) dX4_placeOf_25 rfl (by decide) ?_
        refine X_top (rem10 (by omega)) ?_
        refine X_iload_n (nx := 27) dX4_placeOf_26 rfl rfl rfl ?_
        refine X_icmp_ne (tgt := 32) (nx := 30) dX4_placeOf_27 rfl rfl (fun h27 => ?_) (fun h27 => ?_)
        · skip
          refine X_iinc (nx := 35) dX4_placeOf_32 rfl (by decide) rfl (by first | exact ii1 _ | rfl) rfl (st_s (st_s (st_0))) ?_
          refine X_goto (tgt := 2) dX4_placeOf_35 rfl ?_
          exact ih (i + 1) _ (by omega)
        · exact absurd h27 (rem_ne9 _ (Nat.mod_lt _ (by decide)))
theorem sp_X4_placeOf9 {r : Nat} {s : List Nat} {D : Mem} (hr : isR r) (h : SEG D r s) : Ei 2 j_X4_placeOf [.ref r, .int (-9)] D ((-9)) (D) := by
  refine E.start 2 (ls := [some (.ref r), some (.int (-9)), none, none]) (by decide +kernel) (Nat.le_of_ble_eq_true rfl) rfl (Nat.le_refl _) (Nat.le_refl _) ?_
  refine X_iconst (v := 0) (nx := 1) dX4_placeOf_0 rfl rfl ?_
  refine X_istore_n (i := 2) (nx := 2) dX4_placeOf_1 rfl rfl (by decide) rfl (st_s (st_s (st_0))) ?_
  exact lp_X4_placeOf9 hr h (pl s) 0 _ (by omega)
theorem sp_X4_placeOfX {r d : Nat} {s : List Nat} {x : Int32} {o : Option Nat} {D : Mem} (hr : isR r) (h : SEG D r s) (hx : (x = -9 ∧ o = none) ∨ (x = nI d ∧ d < 10 ∧ o = plOf s d 0 (pl s))) : Ei 2 j_X4_placeOf [.ref r, .int x] D (opI o) D := by
  rcases hx with ⟨rfl, rfl⟩ | ⟨rfl, hd, rfl⟩
  · exact sp_X4_placeOf9 hr h
  · exact sp_X4_placeOf hr h hd rfl
theorem pl_app {s : List Nat} {y : Nat} : pl (s ++ [y]) = pl s + (if y = 40 then 0 else 1) := by
  unfold pl
  rw [List.filter_append, List.length_append]
  congr 1
  by_cases e : y = 40
  · subst e; rfl
  · rw [if_neg e, List.filter_cons_of_pos (by simpa using e)]; rfl
theorem pl_all {s : List Nat} (h : pl s = s.length) : ∀ k, k < s.length → s.getD k 0 ≠ 40 := by
  intro k hk e
  have h2 : (40 : Nat) ∈ s := by rw [← e]; exact getD_in hk
  have h3 := List.length_filter_eq_length_iff.mp h 40 h2
  simp at h3
theorem getD_app1 {s : List Nat} {y k : Nat} (h : k < s.length) : (s ++ [y]).getD k 0 = s.getD k 0 := by
  rw [List.getD_eq_getElem?_getD, List.getElem?_append_left h, List.getD_eq_getElem?_getD]
theorem getD_app2 {s : List Nat} {y : Nat} : (s ++ [y]).getD s.length 0 = y := by
  rw [List.getD_eq_getElem?_getD, List.getElem?_append_right (Nat.le_refl _), Nat.sub_self]; rfl
theorem VS_app {s : List Nat} {y : Nat} (h : VS s) (hl : s.length < 4) (hp : pl s = s.length) (hy : sgv y) : VS (s ++ [y]) := by
  refine ⟨by rw [List.length_append]; simp; omega, fun x hx => ?_, fun k hk => ?_⟩
  · rcases List.mem_append.mp hx with hx | hx
    · exact h.2.1 x hx
    · rw [List.mem_singleton.mp hx]; exact hy
  · rw [List.length_append, List.length_singleton] at hk
    rw [getD_app1 (by omega)]
    exact pl_all hp k (by omega)
theorem PDs_app {s : List Nat} {y : Nat} (h : PDs s) (hp : pl s = s.length) (hy : 10 ≤ y → y < 40 → plOf s (y % 10) 0 (pl s) = none) : PDs (s ++ [y]) := by
  intro j k hjk hk a b c d
  rw [List.length_append, List.length_singleton] at hk
  by_cases e : k = s.length
  · subst e
    rw [getD_app2] at c d ⊢
    rw [getD_app1 hjk] at a b ⊢
    have := fst_none (hy c d) j (Nat.zero_le _) (by omega)
    simp only [Bool.and_eq_false_iff, decide_eq_false_iff_not] at this
    omega
  · rw [getD_app1 (by omega)] at a b c d ⊢
    rw [getD_app1 (by omega)]
    exact h j k hjk (by omega) a b c d
theorem SEG_app {D : Mem} {r y : Nat} {s : List Nat} (h : SEG D r s) (hl : s.length < 4) (hy : y ≤ 40) : SEG (up2 (up2 (up2 D (r + 1) s.length (nI y)) r 1 (nI (s.length + 1))) r 2 (if nI y = 40 then nI (pl s) else nI (pl s + 1))) r (s ++ [y]) := by
  refine ⟨by rw [List.length_append]; simp; omega, ?_, ?_, fun k hk => ?_, fun x hx => ?_⟩
  · rw [up2_other (by omega), up2_same, List.length_append]; rfl
  · rw [up2_same, pl_app]
    by_cases e : y = 40
    · subst e; rfl
    · rw [if_neg e, if_neg (show ¬ nI y = 40 from fun q => e ((nI_eq (a := y) (b := 40) (by omega) (by omega)).mp q))]
  · rw [List.length_append, List.length_singleton] at hk
    rw [up2_ne (by omega), up2_ne (by omega)]
    by_cases e : k = s.length
    · subst e; rw [up2_same, getD_app2]
    · rw [up2_other (by omega), getD_app1 (by omega)]
      exact h.2.2.2.1 k (by omega)
  · rcases List.mem_append.mp hx with hx | hx
    · exact h.2.2.2.2 x hx
    · rw [List.mem_singleton.mp hx]; exact hy
/-- what readSegments leaves -/
def RSG (D D' : Mem) (r : Nat) (u : Int32) (o : Option (List Nat)) : Prop := Fr (fun b => b = r ∨ b = r + 1) D D' ∧ (∀ x, 2 < x → D' r x = D r x) ∧ match o with
  | none => u = 0
  | some s => u = 1 ∧ SEG D' r s ∧ VS s ∧ PDs s
theorem b2i_and_t {p q : Bool} (h : p = true) (h2 : q = true) : (p && q) = true := by rw [h, h2]; rfl
theorem dX3_readSegments_0 : decode cX3_readSegments 0 = .ok (.aload_n 3, 1) := by decide +kernel
theorem dX3_readSegments_1 : decode cX3_readSegments 1 = .ok (.invokevirtual 94, 3) := by decide +kernel
theorem dX3_readSegments_4 : decode cX3_readSegments 4 = .ok (.iload_n 1, 1) := by decide +kernel
theorem dX3_readSegments_5 : decode cX3_readSegments 5 = .ok (.istore 4, 2) := by decide +kernel
theorem dX3_readSegments_7 : decode cX3_readSegments 7 = .ok (.iload 4, 2) := by decide +kernel
theorem dX3_readSegments_9 : decode cX3_readSegments 9 = .ok (.iload_n 2, 1) := by decide +kernel
theorem dX3_readSegments_10 : decode cX3_readSegments 10 = .ok (.if_icmp .ge 110, 3) := by decide +kernel
theorem dX3_readSegments_13 : decode cX3_readSegments 13 = .ok (.aload_n 0, 1) := by decide +kernel
theorem dX3_readSegments_14 : decode cX3_readSegments 14 = .ok (.iload 4, 2) := by decide +kernel
theorem dX3_readSegments_16 : decode cX3_readSegments 16 = .ok (.invokevirtual 21, 3) := by decide +kernel
theorem dX3_readSegments_19 : decode cX3_readSegments 19 = .ok (.bipush 47, 2) := by decide +kernel
theorem dX3_readSegments_21 : decode cX3_readSegments 21 = .ok (.if_icmp .ne 93, 3) := by decide +kernel
theorem dX3_readSegments_24 : decode cX3_readSegments 24 = .ok (.aload_n 0, 1) := by decide +kernel
theorem dX3_readSegments_25 : decode cX3_readSegments 25 = .ok (.iload 4, 2) := by decide +kernel
theorem dX3_readSegments_27 : decode cX3_readSegments 27 = .ok (.iconst 1, 1) := by decide +kernel
theorem dX3_readSegments_28 : decode cX3_readSegments 28 = .ok (.iadd, 1) := by decide +kernel
theorem dX3_readSegments_29 : decode cX3_readSegments 29 = .ok (.invokevirtual 21, 3) := by decide +kernel
theorem dX3_readSegments_32 : decode cX3_readSegments 32 = .ok (.istore 5, 2) := by decide +kernel
theorem dX3_readSegments_34 : decode cX3_readSegments 34 = .ok (.iload 5, 2) := by decide +kernel
theorem dX3_readSegments_36 : decode cX3_readSegments 36 = .ok (.invokestatic 43, 3) := by decide +kernel
theorem dX3_readSegments_39 : decode cX3_readSegments 39 = .ok (.ifCond .eq 17, 3) := by decide +kernel
theorem dX3_readSegments_42 : decode cX3_readSegments 42 = .ok (.aload_n 0, 1) := by decide +kernel
theorem dX3_readSegments_43 : decode cX3_readSegments 43 = .ok (.iload 4, 2) := by decide +kernel
theorem dX3_readSegments_45 : decode cX3_readSegments 45 = .ok (.iconst 2, 1) := by decide +kernel
theorem dX3_readSegments_46 : decode cX3_readSegments 46 = .ok (.iadd, 1) := by decide +kernel
theorem dX3_readSegments_47 : decode cX3_readSegments 47 = .ok (.invokevirtual 21, 3) := by decide +kernel
theorem dX3_readSegments_50 : decode cX3_readSegments 50 = .ok (.bipush 48, 2) := by decide +kernel
theorem dX3_readSegments_52 : decode cX3_readSegments 52 = .ok (.isub, 1) := by decide +kernel
theorem dX3_readSegments_53 : decode cX3_readSegments 53 = .ok (.goto 5, 3) := by decide +kernel
theorem dX3_readSegments_56 : decode cX3_readSegments 56 = .ok (.bipush (-9), 2) := by decide +kernel
theorem dX3_readSegments_58 : decode cX3_readSegments 58 = .ok (.istore 6, 2) := by decide +kernel
theorem dX3_readSegments_60 : decode cX3_readSegments 60 = .ok (.iload 6, 2) := by decide +kernel
theorem dX3_readSegments_62 : decode cX3_readSegments 62 = .ok (.iconst 4, 1) := by decide +kernel
theorem dX3_readSegments_63 : decode cX3_readSegments 63 = .ok (.if_icmp .ge 16, 3) := by decide +kernel
theorem dX3_readSegments_66 : decode cX3_readSegments 66 = .ok (.aload_n 3, 1) := by decide +kernel
theorem dX3_readSegments_67 : decode cX3_readSegments 67 = .ok (.iload 6, 2) := by decide +kernel
theorem dX3_readSegments_69 : decode cX3_readSegments 69 = .ok (.invokevirtual 97, 3) := by decide +kernel
theorem dX3_readSegments_72 : decode cX3_readSegments 72 = .ok (.ifCond .ge 7, 3) := by decide +kernel
theorem dX3_readSegments_75 : decode cX3_readSegments 75 = .ok (.iconst 1, 1) := by decide +kernel
theorem dX3_readSegments_76 : decode cX3_readSegments 76 = .ok (.goto 4, 3) := by decide +kernel
theorem dX3_readSegments_79 : decode cX3_readSegments 79 = .ok (.iconst 0, 1) := by decide +kernel
theorem dX3_readSegments_80 : decode cX3_readSegments 80 = .ok (.istore 7, 2) := by decide +kernel
theorem dX3_readSegments_82 : decode cX3_readSegments 82 = .ok (.iload 7, 2) := by decide +kernel
theorem dX3_readSegments_84 : decode cX3_readSegments 84 = .ok (.ifCond .eq 17, 3) := by decide +kernel
theorem dX3_readSegments_87 : decode cX3_readSegments 87 = .ok (.aload_n 3, 1) := by decide +kernel
theorem dX3_readSegments_88 : decode cX3_readSegments 88 = .ok (.invokevirtual 100, 3) := by decide +kernel
theorem dX3_readSegments_91 : decode cX3_readSegments 91 = .ok (.ifCond .ne 10, 3) := by decide +kernel
theorem dX3_readSegments_94 : decode cX3_readSegments 94 = .ok (.aload_n 3, 1) := by decide +kernel
theorem dX3_readSegments_95 : decode cX3_readSegments 95 = .ok (.invokevirtual 88, 3) := by decide +kernel
theorem dX3_readSegments_98 : decode cX3_readSegments 98 = .ok (.ifCond .eq 5, 3) := by decide +kernel
theorem dX3_readSegments_101 : decode cX3_readSegments 101 = .ok (.iconst 0, 1) := by decide +kernel
theorem dX3_readSegments_102 : decode cX3_readSegments 102 = .ok (.ireturn, 1) := by decide +kernel
theorem dX3_readSegments_103 : decode cX3_readSegments 103 = .ok (.aload_n 3, 1) := by decide +kernel
theorem dX3_readSegments_104 : decode cX3_readSegments 104 = .ok (.iload 5, 2) := by decide +kernel
theorem dX3_readSegments_106 : decode cX3_readSegments 106 = .ok (.iload 6, 2) := by decide +kernel
theorem dX3_readSegments_108 : decode cX3_readSegments 108 = .ok (.invokestatic 101, 3) := by decide +kernel
theorem dX3_readSegments_111 : decode cX3_readSegments 111 = .ok (.invokevirtual 104, 3) := by decide +kernel
theorem dX3_readSegments_114 : decode cX3_readSegments 114 = .ok (.iinc 4 1, 3) := by decide +kernel
theorem dX3_readSegments_117 : decode cX3_readSegments 117 = .ok (.goto (-110), 3) := by decide +kernel
theorem dX3_readSegments_120 : decode cX3_readSegments 120 = .ok (.iconst 1, 1) := by decide +kernel
theorem dX3_readSegments_121 : decode cX3_readSegments 121 = .ok (.ireturn, 1) := by decide +kernel
theorem rs_58 {s : List Nat} {i f e r c d : Nat} {x : Int32} {o : Option Nat} {D : Mem} {Φ : Int32 → Mem → Prop} {y6 y7 : Option Value} (hr : isR r) (hS : SEG D r s) (hc : c < 1000) (hx : (nam c = true ∧ x = nI d ∧ d < 10 ∧ o = plOf s d 0 (pl s)) ∨ (nam c = false ∧ x = -9 ∧ o = none ∧ (c = 42 ∨ (97 ≤ c ∧ c ≤ 100)))) (h0 : ¬ ((x < 4 ∧ o = none) ∧ (s.length < 4 ∧ pl s = s.length)) → Φ 0 D) (hk : ∀ z : Int32, (x < 4 ∧ o = none) → (s.length < 4 ∧ pl s = s.length) → X 3 138 j_X3_readSegments 114 [some (.ref 96), some (.int (nI f)), some (.int (nI e)), some (.ref r), some (.int (nI i)), some (.int (nI c)), some (.int x), some (.int z)] [] (138, P0, up2 (up2 (up2 D (r + 1) s.length (nI (sgo c d))) r 1 (nI (s.length + 1))) r 2 (if nI (sgo c d) = 40 then nI (pl s) else nI (pl s + 1))) (fun x σ => ∃ (u : Int32) (D' : Mem), x = [.int u] ∧ σ = wd D' ∧ Φ u D')) : X 3 138 j_X3_readSegments 58 [some (.ref 96), some (.int (nI f)), some (.int (nI e)), some (.ref r), some (.int (nI i)), some (.int (nI c)), y6, y7] [.int x] (138, P0, D) (fun x σ => ∃ (u : Int32) (D' : Mem), x = [.int u] ∧ σ = wd D' ∧ Φ u D') := by
  obtain ⟨q1, q2, q3, q4, q5, q6⟩ := hr.facts
  have hb2 := pl_le s
  have hx1 : (x = -9 ∧ o = none) ∨ (x = nI d ∧ d < 10 ∧ o = plOf s d 0 (pl s)) := hx.elim (fun q => Or.inr q.2) (fun q => Or.inl ⟨q.2.1, q.2.2.1⟩)
  have hob : ∀ k, o = some k → k < 2147483648 := by
    intro k hk
    rcases hx1 with q | q
    · rw [q.2] at hk; cases hk
    · rw [q.2.2] at hk
      have := (fst_some hk).2.1
      have := hS.1
      omega
  have hx2 : (nam c = true ∧ x = nI d) ∨ (nam c = false ∧ (c = 42 ∨ (97 ≤ c ∧ c ≤ 100))) := hx.elim (fun q => Or.inl ⟨q.1, q.2.1⟩) (fun q => Or.inr ⟨q.1, q.2.2.2⟩)
  refine X_istore (i := 6) (nx := 60) dX3_readSegments_58 rfl (by decide) rfl (st_s (st_s (st_s (st_s (st_s (st_s (st_0))))))) ?_
  refine X_iload (nx := 62) dX3_readSegments_60 rfl rfl ?_
  refine X_iconst (v := 4) (nx := 63) dX3_readSegments_62 rfl rfl ?_
  refine X_icmp_ge (tgt := 79) (nx := 66) dX3_readSegments_63 rfl rfl (fun h63 => ?_) (fun h63 => ?_)
  · skip
    refine X_iconst (v := 0) (nx := 80) dX3_readSegments_79 rfl rfl ?_
    refine X_istore (i := 7) (nx := 82) dX3_readSegments_80 rfl (by decide) rfl (st_s (st_s (st_s (st_s (st_s (st_s (st_s (st_0)))))))) ?_
    refine X_iload (nx := 84) dX3_readSegments_82 rfl rfl ?_
    refine X_if_eq (tgt := 101) (nx := 87) dX3_readSegments_84 rfl rfl (fun h84 => ?_) (fun h84 => ?_)
    · skip
      refine X_iconst (v := 0) (nx := 102) dX3_readSegments_101 rfl rfl ?_
      exact Z_reti dX3_readSegments_102 (Or.inr ⟨rfl, by first | exact Or.inl rfl | exact Or.inr rfl | exact b2i_01 _ | assumption⟩) (h0 (fun q => by first | exact absurd q.1.1 (Int32.not_lt.mpr h63) | (have e := opI_ge (Int32.not_lt.mpr h72); rw [q.1.2] at e; cases e) | (have e := b2i_t.mp h91; simp only [decide_eq_true_eq] at e; omega) | (have e := b2i_t.mp h98; simp only [decide_eq_true_eq] at e; omega)))
    · exact absurd h84 (by decide)
  · skip
    refine X_aload_n (nx := 67) dX3_readSegments_66 rfl rfl rfl ?_
    refine X_iload (nx := 69) dX3_readSegments_67 rfl rfl ?_
    refine Y_Vi1 (nx := 72) dX3_readSegments_69 rfl ml_RX3_97 kj_X4_placeOf kv_X4_placeOf (sp_X4_placeOfX hr hS hx1) (by first | assumption | rfl | decide | omega) (by first | assumption | rfl | decide | omega) (by decide) rfl (by first | decide | omega) (by exact Nat.le_of_ble_eq_true rfl) ?_
    refine X_if_ge (tgt := 79) (nx := 75) dX3_readSegments_72 rfl rfl (fun h72 => ?_) (fun h72 => ?_)
    · skip
      refine X_iconst (v := 0) (nx := 80) dX3_readSegments_79 rfl rfl ?_
      refine X_istore (i := 7) (nx := 82) dX3_readSegments_80 rfl (by decide) rfl (st_s (st_s (st_s (st_s (st_s (st_s (st_s (st_0)))))))) ?_
      refine X_iload (nx := 84) dX3_readSegments_82 rfl rfl ?_
      refine X_if_eq (tgt := 101) (nx := 87) dX3_readSegments_84 rfl rfl (fun h84 => ?_) (fun h84 => ?_)
      · skip
        refine X_iconst (v := 0) (nx := 102) dX3_readSegments_101 rfl rfl ?_
        exact Z_reti dX3_readSegments_102 (Or.inr ⟨rfl, by first | exact Or.inl rfl | exact Or.inr rfl | exact b2i_01 _ | assumption⟩) (h0 (fun q => by first | exact absurd q.1.1 (Int32.not_lt.mpr h63) | (have e := opI_ge (Int32.not_lt.mpr h72); rw [q.1.2] at e; cases e) | (have e := b2i_t.mp h91; simp only [decide_eq_true_eq] at e; omega) | (have e := b2i_t.mp h98; simp only [decide_eq_true_eq] at e; omega)))
      · exact absurd h84 (by decide)
    · skip
      refine X_iconst (v := 1) (nx := 76) dX3_readSegments_75 rfl rfl ?_
      refine X_goto (tgt := 80) dX3_readSegments_76 rfl ?_
      refine X_istore (i := 7) (nx := 82) dX3_readSegments_80 rfl (by decide) rfl (st_s (st_s (st_s (st_s (st_s (st_s (st_s (st_0)))))))) ?_
      refine X_iload (nx := 84) dX3_readSegments_82 rfl rfl ?_
      refine X_if_eq (tgt := 101) (nx := 87) dX3_readSegments_84 rfl rfl (fun h84 => ?_) (fun h84 => ?_)
      · exact absurd h84 (by decide)
      · skip
        refine X_aload_n (nx := 88) dX3_readSegments_87 rfl rfl rfl ?_
        refine Y_Vi0 (nx := 91) dX3_readSegments_88 rfl ml_RX3_100 kj_X4_isFull kv_X4_isFull (sp_X4_isFull hr hS) (by first | assumption | rfl | decide | omega) (by first | assumption | rfl | decide | omega) (by decide) rfl (by first | decide | omega) (by exact Nat.le_of_ble_eq_true rfl) ?_
        refine X_if_ne (tgt := 101) (nx := 94) dX3_readSegments_91 rfl rfl (fun h91 => ?_) (fun h91 => ?_)
        · skip
          refine X_iconst (v := 0) (nx := 102) dX3_readSegments_101 rfl rfl ?_
          exact Z_reti dX3_readSegments_102 (Or.inr ⟨rfl, by first | exact Or.inl rfl | exact Or.inr rfl | exact b2i_01 _ | assumption⟩) (h0 (fun q => by first | exact absurd q.1.1 (Int32.not_lt.mpr h63) | (have e := opI_ge (Int32.not_lt.mpr h72); rw [q.1.2] at e; cases e) | (have e := b2i_t.mp h91; simp only [decide_eq_true_eq] at e; omega) | (have e := b2i_t.mp h98; simp only [decide_eq_true_eq] at e; omega)))
        · skip
          refine X_aload_n (nx := 95) dX3_readSegments_94 rfl rfl rfl ?_
          refine Y_Vi0 (nx := 98) dX3_readSegments_95 rfl ml_RX3_88 kj_X4_hasRest kv_X4_hasRest (sp_X4_hasRest hr hS) (by first | assumption | rfl | decide | omega) (by first | assumption | rfl | decide | omega) (by decide) rfl (by first | decide | omega) (by exact Nat.le_of_ble_eq_true rfl) ?_
          refine X_if_eq (tgt := 103) (nx := 101) dX3_readSegments_98 rfl rfl (fun h98 => ?_) (fun h98 => ?_)
          · skip
            refine X_aload_n (nx := 104) dX3_readSegments_103 rfl rfl rfl ?_
            refine X_iload (nx := 106) dX3_readSegments_104 rfl rfl ?_
            refine X_iload (nx := 108) dX3_readSegments_106 rfl rfl ?_
            refine Y_Si2 (nx := 111) dX3_readSegments_108 rfl ml_RX3_101 kj_X3_segmentOf ks_X3_segmentOf (sp_X3_segmentOf rfl hc hx2) (by first | decide | omega) (by exact Nat.le_of_ble_eq_true rfl) ?_
            refine Y_Vv1 (nx := 114) dX3_readSegments_111 rfl ml_RX3_104 kj_X4_add kv_X4_add (sp_X4_add hr hS (by have n91 := nb h91; simp only [decide_eq_true_eq] at n91; omega)) (by first | assumption | rfl | decide | omega) (by first | assumption | rfl | decide | omega) (by decide) rfl (by first | decide | omega) (by exact Nat.le_of_ble_eq_true rfl) ?_
            exact hk _ ⟨Int32.not_le.mp h63, opI_lt (Int32.not_le.mp h72) hob⟩ ⟨by have n91 := nb h91; simp only [decide_eq_true_eq] at n91; omega, by have n98 := nb h98; simp only [decide_eq_true_eq] at n98; omega⟩
          · skip
            refine X_iconst (v := 0) (nx := 102) dX3_readSegments_101 rfl rfl ?_
            exact Z_reti dX3_readSegments_102 (Or.inr ⟨rfl, by first | exact Or.inl rfl | exact Or.inr rfl | exact b2i_01 _ | assumption⟩) (h0 (fun q => by first | exact absurd q.1.1 (Int32.not_lt.mpr h63) | (have e := opI_ge (Int32.not_lt.mpr h72); rw [q.1.2] at e; cases e) | (have e := b2i_t.mp h91; simp only [decide_eq_true_eq] at e; omega) | (have e := b2i_t.mp h98; simp only [decide_eq_true_eq] at e; omega)))
theorem okq_n {t s : List Nat} {i : Nat} (h : nam (t.getD (i + 1) 0) = true) : okq t i s = true ↔ ((t.getD (i + 2) 0 - 48 < 4 ∧ plOf s (t.getD (i + 2) 0 - 48) 0 (pl s) = none) ∧ (s.length < 4 ∧ pl s = s.length)) := by
  unfold okq
  rw [h]
  simp [Bool.and_eq_true, and_assoc]
theorem okq_u {t s : List Nat} {i : Nat} (h : nam (t.getD (i + 1) 0) = false) : okq t i s = true ↔ (s.length < 4 ∧ pl s = s.length) := by
  unfold okq
  rw [h]
  simp [Bool.and_eq_true]
theorem sgo_v {c d : Nat} (h : (nam c = true ∧ d < 4) ∨ (nam c = false ∧ (c = 42 ∨ (97 ≤ c ∧ c ≤ 100)))) : sgv (sgo c d) := by
  unfold sgv sgo
  rcases h with ⟨h, hd⟩ | ⟨h, h2⟩
  · unfold nam at h
    simp only [decide_eq_true_eq] at h
    rcases h with rfl | rfl | rfl <;> simp <;> omega
  · unfold nam at h
    simp only [decide_eq_false_iff_not] at h
    rw [if_neg (by omega), if_neg (by omega), if_neg (by omega)]
    split <;> omega
theorem sgo_p {c d : Nat} (h : (nam c = true ∧ d < 4) ∨ (nam c = false ∧ (c = 42 ∨ (97 ≤ c ∧ c ≤ 100)))) (h1 : 10 ≤ sgo c d) (h2 : sgo c d < 40) : nam c = true ∧ sgo c d % 10 = d := by
  rcases h with ⟨h, hd⟩ | ⟨h, h3⟩
  · refine ⟨h, ?_⟩
    unfold nam at h
    simp only [decide_eq_true_eq] at h
    unfold sgo
    rcases h with rfl | rfl | rfl <;> simp <;> omega
  · exfalso
    unfold nam at h
    simp only [decide_eq_false_iff_not] at h
    unfold sgo at h1 h2
    rw [if_neg (by omega), if_neg (by omega), if_neg (by omega)] at h1 h2
    split at h1 <;> split at h2 <;> omega
theorem RSG.step {D D1 D2 : Mem} {r : Nat} {u : Int32} {o : Option (List Nat)} (h1 : Fr (fun b => b = r ∨ b = r + 1) D D1) (h2 : ∀ x, 2 < x → D1 r x = D r x) (h : RSG D1 D2 r u o) : RSG D D2 r u o := ⟨h1.tr h.1, fun x hx => (h.2.1 x hx).trans (h2 x hx), h.2.2⟩
theorem add_fr {D : Mem} {r k : Nat} {x y z : Int32} : Fr (fun b => b = r ∨ b = r + 1) D (up2 (up2 (up2 D (r + 1) k x) r 1 y) r 2 z) ∧ ∀ q, 2 < q → up2 (up2 (up2 D (r + 1) k x) r 1 y) r 2 z r q = D r q :=
  ⟨((Fr.up (Or.inr rfl)).tr (Fr.up (Or.inl rfl))).tr (Fr.up (Or.inl rfl)), fun q hq => by rw [up2_other (by omega), up2_other (by omega), up2_other (by omega)]⟩
theorem ltI4 {d : Nat} (hd : d < 10) : nI d < 4 ↔ d < 4 := nI_ltI (b := 4) (by omega) (by omega)
theorem X_fg8s {d k pc : Nat} {j : MI} {a b c e f o1 o2 o3 : Option Value} {st : List Value} {σ : Wd} {Q : List Value → Wd → Prop} (hX : X d k j pc [a, b, c, e, f, none, none, none] st σ Q) : X d k j pc [a, b, c, e, f, o1, o2, o3] st σ Q := by
  refine X_forget (fun i v h => ?_) hX
  match i, h with
  | 0, h => exact h
  | 1, h => exact h
  | 2, h => exact h
  | 3, h => exact h
  | 4, h => exact h
  | 5, h => cases h
  | 6, h => cases h
  | 7, h => cases h
  | n + 8, h => cases h
theorem lp_X3_readSegments {t : List Nat} {r f e : Nat} (hr : isR r) (h256 : ∀ x ∈ t, x < 256) (hl : t.length < 200) : ∀ (m : Nat) (i : Nat) (s : List Nat) (D : Mem) (hi : i + m = e) (he : e ≤ t.length) (hP : PIL D 96 t) (h97 : r ≠ 96 ∧ r + 1 ≠ 96 ∧ r ≠ 97 ∧ r + 1 ≠ 97) (hF : ∀ k, i ≤ k → k < e → t.getD k 0 = 47 → sfm t k) (hS : SEG D r s) (hV : VS s) (hPD : PDs s), X 3 138 j_X3_readSegments 7 [some (.ref 96), some (.int (nI f)), some (.int (nI e)), some (.ref r), some (.int (nI i)), none, none, none] [] (138, P0, D) (fun x σ => ∃ (u : Int32) (D' : Mem), x = [.int u] ∧ σ = wd D' ∧ RSG D D' r u (rsg t i m s)) := by
  intro m
  induction m with
  | zero =>
    intro i s D hi he hP h97 hF hS hV hPD
    refine X_iload (nx := 9) dX3_readSegments_7 rfl rfl ?_
    refine X_iload_n (nx := 10) dX3_readSegments_9 rfl rfl rfl ?_
    refine X_icmp_ge (tgt := 120) (nx := 13) dX3_readSegments_10 rfl rfl (fun h10 => ?_) (fun h10 => ?_)
    · skip
      refine X_iconst (v := 1) (nx := 121) dX3_readSegments_120 rfl rfl ?_
      exact Z_reti dX3_readSegments_121 (Or.inr ⟨rfl, by first | exact Or.inl rfl | exact Or.inr rfl | exact b2i_01 _ | assumption⟩) ⟨Fr.rf, fun _ _ => rfl, rfl, hS, hV, hPD⟩
    · exact absurd h10 (fun q => q (nI_le (by omega) (by omega)))
  | succ m ih =>
    intro i s D hi he hP h97 hF hS hV hPD
    have hci : t.getD i 0 < 256 := getD_lt h256 (by omega)
    refine X_iload (nx := 9) dX3_readSegments_7 rfl rfl ?_
    refine X_iload_n (nx := 10) dX3_readSegments_9 rfl rfl rfl ?_
    refine X_icmp_ge (tgt := 120) (nx := 13) dX3_readSegments_10 rfl rfl (fun h10 => ?_) (fun h10 => ?_)
    · exact absurd h10 (nI_ge (by omega) (by omega))
    · skip
      refine X_aload_n (nx := 14) dX3_readSegments_13 rfl rfl rfl ?_
      refine X_iload (nx := 16) dX3_readSegments_14 rfl rfl ?_
      refine Y_Vi1 (nx := 19) dX3_readSegments_16 rfl ml_RX3_21 kj_X2_at kv_X2_at (sp_X2_at (Or.inl rfl) hP rfl (by omega)) (by first | assumption | rfl | decide | omega) (by first | assumption | rfl | decide | omega) (by decide) rfl (by first | decide | omega) (by exact Nat.le_of_ble_eq_true rfl) ?_
      refine X_bipush (v := nI 47) (nx := 21) dX3_readSegments_19 rfl rfl ?_
      refine X_icmp_ne (tgt := 114) (nx := 24) dX3_readSegments_21 rfl rfl (fun h21 => ?_) (fun h21 => ?_)
      · skip
        rw [nI_eq (by omega) (by omega)] at h21
        rw [show rsg t i (m + 1) s = rsg t (i + 1) m s from if_neg h21]
        refine X_iinc (nx := 117) dX3_readSegments_114 rfl (by decide) rfl (by first | exact ii1 _ | rfl) rfl (st_s (st_s (st_s (st_s (st_0))))) ?_
        refine X_goto (tgt := 7) dX3_readSegments_117 rfl ?_
        exact ih (i + 1) s D (by omega) he hP h97 (fun k h1 h2 => hF k (by omega) h2) hS hV hPD
      · skip
        rw [nI_eq (by omega) (by omega)] at h21
        have hsf := hF i (Nat.le_refl _) (by omega) h21
        have hlt1 : i + 1 < t.length := hsf.1
        have hc1 : t.getD (i + 1) 0 < 256 := getD_lt h256 hlt1
        rw [show rsg t i (m + 1) s = (if okq t i s = true then rsg t (i + 1) m (s ++ [sgo (t.getD (i + 1) 0) (t.getD (i + 2) 0 - 48)]) else none) from if_pos h21]
        refine X_aload_n (nx := 25) dX3_readSegments_24 rfl rfl rfl ?_
        refine X_iload (nx := 27) dX3_readSegments_25 rfl rfl ?_
        refine X_iconst (v := nI 1) (nx := 28) dX3_readSegments_27 rfl rfl ?_
        refine X_iadd (nx := 29) dX3_readSegments_28 rfl ?_
        refine Y_Vi1 (nx := 32) dX3_readSegments_29 rfl ml_RX3_21 kj_X2_at kv_X2_at (sp_X2_at (Or.inl rfl) hP (nI_add _ _) hlt1) (by first | assumption | rfl | decide | omega) (by first | assumption | rfl | decide | omega) (by decide) rfl (by first | decide | omega) (by exact Nat.le_of_ble_eq_true rfl) ?_
        refine X_istore (i := 5) (nx := 34) dX3_readSegments_32 rfl (by decide) rfl (st_s (st_s (st_s (st_s (st_s (st_0)))))) ?_
        refine X_iload (nx := 36) dX3_readSegments_34 rfl rfl ?_
        refine Y_Si1 (nx := 39) dX3_readSegments_36 rfl ml_RX3_43 kj_X3_isNamed ks_X3_isNamed (sp_X3_isNamed rfl (by omega)) (by first | decide | omega) (by exact Nat.le_of_ble_eq_true rfl) ?_
        refine X_if_eq (tgt := 56) (nx := 42) dX3_readSegments_39 rfl rfl (fun h39 => ?_) (fun h39 => ?_)
        · skip
          have hn39 := b2i_f.mp h39
          have hsn : nam (t.getD (i + 1) 0) = false ∧ (t.getD (i + 1) 0 = 42 ∨ (97 ≤ t.getD (i + 1) 0 ∧ t.getD (i + 1) 0 ≤ 100)) := hsf.2.elim (fun q => by rw [q.1] at hn39; cases hn39) id
          refine X_bipush (v := -9) (nx := 58) dX3_readSegments_56 rfl rfl ?_
          first
            | (refine rs_58 (o := plOf s (t.getD (i + 2) 0 - 48) 0 (pl s)) (d := t.getD (i + 2) 0 - 48) hr hS (by omega) (Or.inl ⟨hsn.1, rfl, by omega, rfl⟩) (fun q => ?_) (fun z q1 q2 => ?_)
               · rw [if_neg (fun w => q (by have w2 := (okq_n hsn.1).mp w; exact ⟨⟨(ltI4 (by omega)).mpr w2.1.1, w2.1.2⟩, w2.2⟩))]
                 exact ⟨Fr.rf, fun _ _ => rfl, rfl⟩
               · have hd4 := (ltI4 (by omega)).mp q1.1
                 rw [if_pos ((okq_n hsn.1).mpr ⟨⟨hd4, q1.2⟩, q2⟩)]
                 have hgv := sgo_v (Or.inl ⟨hsn.1, hd4⟩)
                 refine X_iinc (nx := 117) dX3_readSegments_114 rfl (by decide) rfl (by first | exact ii1 _ | rfl) rfl (st_s (st_s (st_s (st_s (st_0))))) ?_
                 refine X_goto (tgt := 7) dX3_readSegments_117 rfl ?_
                 refine X_fg8s (X.mono (ih (i + 1) _ _ (by omega) he (hP.fr ?_ ?_) h97 (fun k h1 h2 => hF k (by omega) h2) (SEG_app hS q2.1 (sgv_le hgv)) (VS_app hV q2.1 q2.2 hgv) (PDs_app hPD q2.2 (fun a b => by rw [(sgo_p (Or.inl ⟨hsn.1, hd4⟩) a b).2]; exact q1.2))) (fun vs σ' hq => ?_))
                 · exact add_fr.1 96 (by omega)
                 · exact add_fr.1 97 (by omega)
                 · obtain ⟨u, D', e1, e2, e3⟩ := hq
                   exact ⟨u, D', e1, e2, e3.step add_fr.1 add_fr.2⟩)
            | (refine rs_58 (o := none) (d := t.getD (i + 2) 0 - 48) hr hS (by omega) (Or.inr ⟨hsn.1, rfl, rfl, hsn.2⟩) (fun q => ?_) (fun z q1 q2 => ?_)
               · rw [if_neg (fun w => q (by have w2 := (okq_u hsn.1).mp w; exact ⟨⟨by decide, rfl⟩, w2⟩))]
                 exact ⟨Fr.rf, fun _ _ => rfl, rfl⟩
               · rw [if_pos ((okq_u hsn.1).mpr q2)]
                 have hgv : sgv (sgo (t.getD (i + 1) 0) (t.getD (i + 2) 0 - 48)) := sgo_v (Or.inr hsn)
                 refine X_iinc (nx := 117) dX3_readSegments_114 rfl (by decide) rfl (by first | exact ii1 _ | rfl) rfl (st_s (st_s (st_s (st_s (st_0))))) ?_
                 refine X_goto (tgt := 7) dX3_readSegments_117 rfl ?_
                 refine X_fg8s (X.mono (ih (i + 1) _ _ (by omega) he (hP.fr ?_ ?_) h97 (fun k h1 h2 => hF k (by omega) h2) (SEG_app hS q2.1 (sgv_le hgv)) (VS_app hV q2.1 q2.2 hgv) (PDs_app hPD q2.2 (fun a b => absurd (sgo_p (Or.inr hsn) a b).1 (by rw [hsn.1]; decide)))) (fun vs σ' hq => ?_))
                 · exact add_fr.1 96 (by omega)
                 · exact add_fr.1 97 (by omega)
                 · obtain ⟨u, D', e1, e2, e3⟩ := hq
                   exact ⟨u, D', e1, e2, e3.step add_fr.1 add_fr.2⟩)
        · skip
          have hn39 := b2i_t.mp h39
          have hsn : nam (t.getD (i + 1) 0) = true ∧ i + 2 < t.length ∧ dig (t.getD (i + 2) 0) = true := hsf.2.elim id (fun q => by rw [q.1] at hn39; cases hn39)
          have hdg : 48 ≤ t.getD (i + 2) 0 ∧ t.getD (i + 2) 0 ≤ 57 := of_decide_eq_true hsn.2.2
          refine X_aload_n (nx := 43) dX3_readSegments_42 rfl rfl rfl ?_
          refine X_iload (nx := 45) dX3_readSegments_43 rfl rfl ?_
          refine X_iconst (v := nI 2) (nx := 46) dX3_readSegments_45 rfl rfl ?_
          refine X_iadd (nx := 47) dX3_readSegments_46 rfl ?_
          refine Y_Vi1 (nx := 50) dX3_readSegments_47 rfl ml_RX3_21 kj_X2_at kv_X2_at (sp_X2_at (Or.inl rfl) hP (nI_add _ _) hsn.2.1) (by first | assumption | rfl | decide | omega) (by first | assumption | rfl | decide | omega) (by decide) rfl (by first | decide | omega) (by exact Nat.le_of_ble_eq_true rfl) ?_
          refine X_bipush (v := nI 48) (nx := 52) dX3_readSegments_50 rfl rfl ?_
          refine X_isub (nx := 53) dX3_readSegments_52 rfl ?_
          refine X_top (sub_nI (by omega)) ?_
          refine X_goto (tgt := 58) dX3_readSegments_53 rfl ?_
          first
            | (refine rs_58 (o := plOf s (t.getD (i + 2) 0 - 48) 0 (pl s)) (d := t.getD (i + 2) 0 - 48) hr hS (by omega) (Or.inl ⟨hsn.1, rfl, by omega, rfl⟩) (fun q => ?_) (fun z q1 q2 => ?_)
               · rw [if_neg (fun w => q (by have w2 := (okq_n hsn.1).mp w; exact ⟨⟨(ltI4 (by omega)).mpr w2.1.1, w2.1.2⟩, w2.2⟩))]
                 exact ⟨Fr.rf, fun _ _ => rfl, rfl⟩
               · have hd4 := (ltI4 (by omega)).mp q1.1
                 rw [if_pos ((okq_n hsn.1).mpr ⟨⟨hd4, q1.2⟩, q2⟩)]
                 have hgv := sgo_v (Or.inl ⟨hsn.1, hd4⟩)
                 refine X_iinc (nx := 117) dX3_readSegments_114 rfl (by decide) rfl (by first | exact ii1 _ | rfl) rfl (st_s (st_s (st_s (st_s (st_0))))) ?_
                 refine X_goto (tgt := 7) dX3_readSegments_117 rfl ?_
                 refine X_fg8s (X.mono (ih (i + 1) _ _ (by omega) he (hP.fr ?_ ?_) h97 (fun k h1 h2 => hF k (by omega) h2) (SEG_app hS q2.1 (sgv_le hgv)) (VS_app hV q2.1 q2.2 hgv) (PDs_app hPD q2.2 (fun a b => by rw [(sgo_p (Or.inl ⟨hsn.1, hd4⟩) a b).2]; exact q1.2))) (fun vs σ' hq => ?_))
                 · exact add_fr.1 96 (by omega)
                 · exact add_fr.1 97 (by omega)
                 · obtain ⟨u, D', e1, e2, e3⟩ := hq
                   exact ⟨u, D', e1, e2, e3.step add_fr.1 add_fr.2⟩)
            | (refine rs_58 (o := none) (d := t.getD (i + 2) 0 - 48) hr hS (by omega) (Or.inr ⟨hsn.1, rfl, rfl, hsn.2⟩) (fun q => ?_) (fun z q1 q2 => ?_)
               · rw [if_neg (fun w => q (by have w2 := (okq_u hsn.1).mp w; exact ⟨⟨by decide, rfl⟩, w2⟩))]
                 exact ⟨Fr.rf, fun _ _ => rfl, rfl⟩
               · rw [if_pos ((okq_u hsn.1).mpr q2)]
                 have hgv : sgv (sgo (t.getD (i + 1) 0) (t.getD (i + 2) 0 - 48)) := sgo_v (Or.inr hsn)
                 refine X_iinc (nx := 117) dX3_readSegments_114 rfl (by decide) rfl (by first | exact ii1 _ | rfl) rfl (st_s (st_s (st_s (st_s (st_0))))) ?_
                 refine X_goto (tgt := 7) dX3_readSegments_117 rfl ?_
                 refine X_fg8s (X.mono (ih (i + 1) _ _ (by omega) he (hP.fr ?_ ?_) h97 (fun k h1 h2 => hF k (by omega) h2) (SEG_app hS q2.1 (sgv_le hgv)) (VS_app hV q2.1 q2.2 hgv) (PDs_app hPD q2.2 (fun a b => absurd (sgo_p (Or.inr hsn) a b).1 (by rw [hsn.1]; decide)))) (fun vs σ' hq => ?_))
                 · exact add_fr.1 96 (by omega)
                 · exact add_fr.1 97 (by omega)
                 · obtain ⟨u, D', e1, e2, e3⟩ := hq
                   exact ⟨u, D', e1, e2, e3.step add_fr.1 add_fr.2⟩)
theorem sp_X3_readSegments {t : List Nat} {r f e : Nat} {x y : Int32} {D : Mem} (hx : x = nI f) (hy : y = nI e) (hr : isR r) (h256 : ∀ x ∈ t, x < 256) (hl : t.length < 200) (hf : f ≤ e) (he : e ≤ t.length) (hP : PIL D 96 t) (h97 : r ≠ 96 ∧ r + 1 ≠ 96 ∧ r ≠ 97 ∧ r + 1 ≠ 97) (hF : ∀ k, f ≤ k → k < e → t.getD k 0 = 47 → sfm t k) : Rix 3 j_X3_readSegments [.ref 96, .int x, .int y, .ref r] D (fun u D' => RSG D D' r u (rsg t f (e - f) [])) := by
  refine E.start 4 (ls := [some (.ref 96), some (.int x), some (.int y), some (.ref r), none, none, none, none]) (by decide +kernel) (Nat.le_of_ble_eq_true rfl) rfl (Nat.le_refl _) (Nat.le_refl _) ?_
  subst hx; subst hy
  obtain ⟨q1, q2, q3, q4, q5, q6⟩ := hr.facts
  refine X_aload_n (nx := 1) dX3_readSegments_0 rfl rfl rfl ?_
  refine Y_Vv0 (nx := 4) dX3_readSegments_1 rfl ml_RX3_94 kj_X4_empty kv_X4_empty (sp_X4_empty hr) (by first | assumption | rfl | decide | omega) (by first | assumption | rfl | decide | omega) (by decide) rfl (by first | decide | omega) (by exact Nat.le_of_ble_eq_true rfl) ?_
  refine X_iload_n (nx := 5) dX3_readSegments_4 rfl rfl rfl ?_
  refine X_istore (i := 4) (nx := 7) dX3_readSegments_5 rfl (by decide) rfl (st_s (st_s (st_s (st_s (st_0))))) ?_
  refine X.mono (lp_X3_readSegments hr h256 hl (e - f) f [] _ (by omega) he (hP.fr ?_ ?_) h97 hF ⟨Nat.zero_le _, ?_, ?_, fun k hk => absurd hk (Nat.not_lt_zero _), fun x hx => absurd hx List.not_mem_nil⟩ ⟨Nat.zero_le _, fun x hx => absurd hx List.not_mem_nil, fun k hk => absurd hk (Nat.not_lt_zero _)⟩ (fun j k _ hk => absurd hk (Nat.not_lt_zero _))) (fun vs σ' hq => ?_)
  · rw [up2_ne (by omega), up2_ne (by omega)]
  · rw [up2_ne (by omega), up2_ne (by omega)]
  · rw [up2_other (by omega), up2_same]; rfl
  · rw [up2_same]; rfl
  · obtain ⟨u, D', e1, e2, e3⟩ := hq
    exact ⟨u, D', e1, e2, e3.step ((Fr.up (Or.inl rfl)).tr (Fr.up (Or.inl rfl))) (fun q hq => by rw [up2_other (by omega), up2_other (by omega)])⟩
