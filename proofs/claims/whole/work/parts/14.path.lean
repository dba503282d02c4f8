/-- segments as they can be: REST only the last -/
def VS (s : List Nat) : Prop := s.length ≤ 4 ∧ (∀ x ∈ s, sgv x) ∧ ∀ k, k + 1 < s.length → s.getD k 0 ≠ 40
theorem getD_in {s : List Nat} {k : Nat} (h : k < s.length) : s.getD k 0 ∈ s := by
  rw [List.getD_eq_getElem?_getD, List.getElem?_eq_getElem h]
  exact List.getElem_mem h
theorem VS.plain {s : List Nat} {k : Nat} (h : VS s) (hk : k < pl s) : sgv (s.getD k 0) ∧ s.getD k 0 ≠ 40 := by
  have hl := pl_le s
  have hin := getD_in (s := s) (k := k) (by omega)
  refine ⟨h.2.1 _ hin, fun e => ?_⟩
  by_cases hk1 : k + 1 < s.length
  · exact h.2.2 k hk1 e
  · have : pl s < s.length := by
      unfold pl
      exact List.length_filter_lt_length_iff_exists.mpr ⟨40, by rw [← e]; exact hin, by decide⟩
    omega
/-- all of n from i on -/
def alB (f : Nat → Bool) : Nat → Nat → Bool
  | _, 0 => true
  | i, n + 1 => f i && alB f (i + 1) n
theorem alB_t {f : Nat → Bool} : ∀ {n i : Nat}, alB f i n = true ↔ ∀ x, i ≤ x → x < i + n → f x = true := by
  intro n
  induction n with
  | zero => intro i; simp [alB]; intro x h1 h2; omega
  | succ n ih =>
    intro i
    simp only [alB, Bool.and_eq_true, ih]
    constructor
    · intro ⟨h1, h2⟩ x hx1 hx2
      by_cases e : x = i
      · subst e; exact h1
      · exact h2 x (by omega) (by omega)
    · intro h
      exact ⟨h i (Nat.le_refl _) (by omega), fun x h1 h2 => h x (by omega) (by omega)⟩
theorem alB_congr {f g : Nat → Bool} {n i : Nat} (h : ∀ x, i ≤ x → x < i + n → f x = g x) : alB f i n = alB g i n := by
  induction n generalizing i with
  | zero => rfl
  | succ n ih =>
    unfold alB
    rw [h i (Nat.le_refl _) (by omega), ih (fun x h1 h2 => h x (by omega) (by omega))]
theorem al_1 {f : Nat → Bool} {i m : Nat} (h : f i = true) : alB f i (m + 1) = alB f (i + 1) m := by
  show (f i && alB f (i + 1) m) = _
  rw [h]; rfl
theorem al_0 {f : Nat → Bool} {i m : Nat} (h : f i = false) : alB f i (m + 1) = false := by
  show (f i && alB f (i + 1) m) = _
  rw [h]; rfl
/-- alike but for parameters -/
def likeF (s t : List Nat) : Nat → Bool := fun k => decide (typ (s.getD k 0) = typ (t.getD k 0))
theorem typ_lt {x : Nat} (h : x ≤ 40) : typ x < 10 := by unfold typ; split <;> omega
theorem dX4_isAlike_0 : decode cX4_isAlike 0 = .ok (.aload_n 0, 1) := by decide +kernel
theorem dX4_isAlike_1 : decode cX4_isAlike 1 = .ok (.getfield 26, 3) := by decide +kernel
theorem dX4_isAlike_4 : decode cX4_isAlike 4 = .ok (.aload_n 1, 1) := by decide +kernel
theorem dX4_isAlike_5 : decode cX4_isAlike 5 = .ok (.getfield 26, 3) := by decide +kernel
theorem dX4_isAlike_8 : decode cX4_isAlike 8 = .ok (.if_icmp .ne 18, 3) := by decide +kernel
theorem dX4_isAlike_11 : decode cX4_isAlike 11 = .ok (.aload_n 0, 1) := by decide +kernel
theorem dX4_isAlike_12 : decode cX4_isAlike 12 = .ok (.getfield 29, 3) := by decide +kernel
theorem dX4_isAlike_15 : decode cX4_isAlike 15 = .ok (.aload_n 1, 1) := by decide +kernel
theorem dX4_isAlike_16 : decode cX4_isAlike 16 = .ok (.getfield 29, 3) := by decide +kernel
theorem dX4_isAlike_19 : decode cX4_isAlike 19 = .ok (.if_icmp .ne 7, 3) := by decide +kernel
theorem dX4_isAlike_22 : decode cX4_isAlike 22 = .ok (.iconst 1, 1) := by decide +kernel
theorem dX4_isAlike_23 : decode cX4_isAlike 23 = .ok (.goto 4, 3) := by decide +kernel
theorem dX4_isAlike_26 : decode cX4_isAlike 26 = .ok (.iconst 0, 1) := by decide +kernel
theorem dX4_isAlike_27 : decode cX4_isAlike 27 = .ok (.istore_n 2, 1) := by decide +kernel
theorem dX4_isAlike_28 : decode cX4_isAlike 28 = .ok (.iconst 0, 1) := by decide +kernel
theorem dX4_isAlike_29 : decode cX4_isAlike 29 = .ok (.istore_n 3, 1) := by decide +kernel
theorem dX4_isAlike_30 : decode cX4_isAlike 30 = .ok (.iload_n 2, 1) := by decide +kernel
theorem dX4_isAlike_31 : decode cX4_isAlike 31 = .ok (.ifCond .eq 42, 3) := by decide +kernel
theorem dX4_isAlike_34 : decode cX4_isAlike 34 = .ok (.iload_n 3, 1) := by decide +kernel
theorem dX4_isAlike_35 : decode cX4_isAlike 35 = .ok (.aload_n 0, 1) := by decide +kernel
theorem dX4_isAlike_36 : decode cX4_isAlike 36 = .ok (.getfield 29, 3) := by decide +kernel
theorem dX4_isAlike_39 : decode cX4_isAlike 39 = .ok (.if_icmp .ge 34, 3) := by decide +kernel
theorem dX4_isAlike_42 : decode cX4_isAlike 42 = .ok (.aload_n 0, 1) := by decide +kernel
theorem dX4_isAlike_43 : decode cX4_isAlike 43 = .ok (.iload_n 3, 1) := by decide +kernel
theorem dX4_isAlike_44 : decode cX4_isAlike 44 = .ok (.invokevirtual 47, 3) := by decide +kernel
theorem dX4_isAlike_47 : decode cX4_isAlike 47 = .ok (.invokestatic 54, 3) := by decide +kernel
theorem dX4_isAlike_50 : decode cX4_isAlike 50 = .ok (.aload_n 1, 1) := by decide +kernel
theorem dX4_isAlike_51 : decode cX4_isAlike 51 = .ok (.iload_n 3, 1) := by decide +kernel
theorem dX4_isAlike_52 : decode cX4_isAlike 52 = .ok (.invokevirtual 47, 3) := by decide +kernel
theorem dX4_isAlike_55 : decode cX4_isAlike 55 = .ok (.invokestatic 54, 3) := by decide +kernel
theorem dX4_isAlike_58 : decode cX4_isAlike 58 = .ok (.if_icmp .ne 7, 3) := by decide +kernel
theorem dX4_isAlike_61 : decode cX4_isAlike 61 = .ok (.iconst 1, 1) := by decide +kernel
theorem dX4_isAlike_62 : decode cX4_isAlike 62 = .ok (.goto 4, 3) := by decide +kernel
theorem dX4_isAlike_65 : decode cX4_isAlike 65 = .ok (.iconst 0, 1) := by decide +kernel
theorem dX4_isAlike_66 : decode cX4_isAlike 66 = .ok (.istore_n 2, 1) := by decide +kernel
theorem dX4_isAlike_67 : decode cX4_isAlike 67 = .ok (.iinc 3 1, 3) := by decide +kernel
theorem dX4_isAlike_70 : decode cX4_isAlike 70 = .ok (.goto (-40), 3) := by decide +kernel
theorem dX4_isAlike_73 : decode cX4_isAlike 73 = .ok (.iload_n 2, 1) := by decide +kernel
theorem dX4_isAlike_74 : decode cX4_isAlike 74 = .ok (.ireturn, 1) := by decide +kernel
theorem lp_X4_isAlike {r r2 : Nat} {s t : List Nat} {D : Mem} (hr : isR r) (hr2 : isR r2) (h : SEG D r s) (h2 : SEG D r2 t) (hv : VS s) (hv2 : VS t) : ∀ (m : Nat) (i : Nat) (a : Bool), i + m = pl s → (a = true → pl s = pl t) → X 2 138 j_X4_isAlike 30 [some (.ref r), some (.ref r2), some (.int (b2i a)), some (.int (nI i))] [] (138, P0, D) (fun x σ => x = [.int (b2i (a && alB (likeF s t) i m))] ∧ σ = wd D) := by
  intro m
  induction m with
  | zero =>
    intro i a hi ha
    obtain ⟨q1, q2, q3, q4, q5, q6⟩ := hr.facts
    obtain ⟨z1, z2, z3, z4, z5, z6⟩ := hr2.facts
    have hb := h.1
    have hb2 := pl_le s
    have hc := h2.1
    have hc2 := pl_le t
    refine X_iload_n (nx := 31) dX4_isAlike_30 rfl rfl rfl ?_
    refine X_if_eq (tgt := 73) (nx := 34) dX4_isAlike_31 rfl rfl (fun h31 => ?_) (fun h31 => ?_)
    · skip
      refine X_iload_n (nx := 74) dX4_isAlike_73 rfl rfl rfl ?_
      exact Y_reti dX4_isAlike_74 (Or.inr ⟨rfl, by first | exact Or.inl rfl | exact Or.inr rfl | exact b2i_01 _ | assumption⟩) (by simp [alB]) rfl
    · skip
      refine X_iload_n (nx := 35) dX4_isAlike_34 rfl rfl rfl ?_
      refine X_aload_n (nx := 36) dX4_isAlike_35 rfl rfl rfl ?_
      refine M_getI (nx := 39) dX4_isAlike_36 rfl fl_RX4_29 rfl (by first | assumption | rfl | decide | omega) (by first | assumption | rfl | decide | omega) ?_
      refine X_top (h.2.2.1) ?_
      refine X_icmp_ge (tgt := 73) (nx := 42) dX4_isAlike_39 rfl rfl (fun h39 => ?_) (fun h39 => ?_)
      · skip
        refine X_iload_n (nx := 74) dX4_isAlike_73 rfl rfl rfl ?_
        exact Y_reti dX4_isAlike_74 (Or.inr ⟨rfl, by first | exact Or.inl rfl | exact Or.inr rfl | exact b2i_01 _ | assumption⟩) (by simp [alB]) rfl
      · exact absurd h39 (fun q => q (nI_le (by omega) (by omega)))
  | succ m ih =>
    intro i a hi ha
    obtain ⟨q1, q2, q3, q4, q5, q6⟩ := hr.facts
    obtain ⟨z1, z2, z3, z4, z5, z6⟩ := hr2.facts
    have hb := h.1
    have hb2 := pl_le s
    have hc := h2.1
    have hc2 := pl_le t
    refine X_iload_n (nx := 31) dX4_isAlike_30 rfl rfl rfl ?_
    refine X_if_eq (tgt := 73) (nx := 34) dX4_isAlike_31 rfl rfl (fun h31 => ?_) (fun h31 => ?_)
    · skip
      refine X_iload_n (nx := 74) dX4_isAlike_73 rfl rfl rfl ?_
      exact Y_reti dX4_isAlike_74 (Or.inr ⟨rfl, by first | exact Or.inl rfl | exact Or.inr rfl | exact b2i_01 _ | assumption⟩) (by rw [b2i_f.mp h31]; rfl) rfl
    · skip
      have hat := b2i_t.mp h31
      have hpp := ha hat
      refine X_iload_n (nx := 35) dX4_isAlike_34 rfl rfl rfl ?_
      refine X_aload_n (nx := 36) dX4_isAlike_35 rfl rfl rfl ?_
      refine M_getI (nx := 39) dX4_isAlike_36 rfl fl_RX4_29 rfl (by first | assumption | rfl | decide | omega) (by first | assumption | rfl | decide | omega) ?_
      refine X_top (h.2.2.1) ?_
      refine X_icmp_ge (tgt := 73) (nx := 42) dX4_isAlike_39 rfl rfl (fun h39 => ?_) (fun h39 => ?_)
      · exact absurd h39 (nI_ge (by omega) (by omega))
      · skip
        refine X_aload_n (nx := 43) dX4_isAlike_42 rfl rfl rfl ?_
        refine X_iload_n (nx := 44) dX4_isAlike_43 rfl rfl rfl ?_
        refine Y_Vi1 (nx := 47) dX4_isAlike_44 rfl ml_RX4_47 kj_X4_segmentAt kv_X4_segmentAt (sp_X4_segmentAt hr h rfl (by omega)) (by first | assumption | rfl | decide | omega) (by first | assumption | rfl | decide | omega) (by decide) rfl (by first | decide | omega) (by exact Nat.le_of_ble_eq_true rfl) ?_
        refine Y_Si1 (nx := 50) dX4_isAlike_47 rfl ml_RX4_54 kj_X5_edgeOf ks_X5_edgeOf (sp_X5_edgeOf rfl (hv.plain (by omega)).1 (hv.plain (by omega)).2) (by first | decide | omega) (by exact Nat.le_of_ble_eq_true rfl) ?_
        refine X_aload_n (nx := 51) dX4_isAlike_50 rfl rfl rfl ?_
        refine X_iload_n (nx := 52) dX4_isAlike_51 rfl rfl rfl ?_
        refine Y_Vi1 (nx := 55) dX4_isAlike_52 rfl ml_RX4_47 kj_X4_segmentAt kv_X4_segmentAt (sp_X4_segmentAt hr2 h2 rfl (by omega)) (by first | assumption | rfl | decide | omega) (by first | assumption | rfl | decide | omega) (by decide) rfl (by first | decide | omega) (by exact Nat.le_of_ble_eq_true rfl) ?_
        refine Y_Si1 (nx := 58) dX4_isAlike_55 rfl ml_RX4_54 kj_X5_edgeOf ks_X5_edgeOf (sp_X5_edgeOf rfl (hv2.plain (by omega)).1 (hv2.plain (by omega)).2) (by first | decide | omega) (by exact Nat.le_of_ble_eq_true rfl) ?_
        refine X_icmp_ne (tgt := 65) (nx := 61) dX4_isAlike_58 rfl rfl (fun h58 => ?_) (fun h58 => ?_)
        · skip
          rw [nI_eq (by have := typ_lt (sgv_le (hv.plain (show i < pl s by omega)).1); omega) (by have := typ_lt (sgv_le (hv2.plain (show i < pl t by omega)).1); omega)] at h58
          refine X_iconst (v := 0) (nx := 66) dX4_isAlike_65 rfl rfl ?_
          refine X_istore_n (i := 2) (nx := 67) dX4_isAlike_66 rfl rfl (by decide) rfl (st_s (st_s (st_0))) ?_
          refine X_iinc (nx := 70) dX4_isAlike_67 rfl (by decide) rfl (by first | exact ii1 _ | rfl) rfl (st_s (st_s (st_s (st_0)))) ?_
          refine X_goto (tgt := 30) dX4_isAlike_70 rfl ?_
          rw [hat]
          first
            | (have e1 : alB (likeF s t) i (m + 1) = alB (likeF s t) (i + 1) m := al_1 (decide_eq_true h58); rw [e1]; exact ih (i + 1) true (by omega) (fun _ => hpp))
            | (have e1 : alB (likeF s t) i (m + 1) = false := al_0 (decide_eq_false h58); rw [e1]; have e2 := ih (i + 1) false (by omega) (fun q => by cases q); rw [Bool.false_and] at e2; exact e2)
        · skip
          rw [nI_eq (by have := typ_lt (sgv_le (hv.plain (show i < pl s by omega)).1); omega) (by have := typ_lt (sgv_le (hv2.plain (show i < pl t by omega)).1); omega)] at h58
          refine X_iconst (v := 1) (nx := 62) dX4_isAlike_61 rfl rfl ?_
          refine X_goto (tgt := 66) dX4_isAlike_62 rfl ?_
          refine X_istore_n (i := 2) (nx := 67) dX4_isAlike_66 rfl rfl (by decide) rfl (st_s (st_s (st_0))) ?_
          refine X_iinc (nx := 70) dX4_isAlike_67 rfl (by decide) rfl (by first | exact ii1 _ | rfl) rfl (st_s (st_s (st_s (st_0)))) ?_
          refine X_goto (tgt := 30) dX4_isAlike_70 rfl ?_
          rw [hat]
          first
            | (have e1 : alB (likeF s t) i (m + 1) = alB (likeF s t) (i + 1) m := al_1 (decide_eq_true h58); rw [e1]; exact ih (i + 1) true (by omega) (fun _ => hpp))
            | (have e1 : alB (likeF s t) i (m + 1) = false := al_0 (decide_eq_false h58); rw [e1]; have e2 := ih (i + 1) false (by omega) (fun q => by cases q); rw [Bool.false_and] at e2; exact e2)
theorem sp_X4_isAlike {r r2 : Nat} {s t : List Nat} {D : Mem} (hr : isR r) (hr2 : isR r2) (h : SEG D r s) (h2 : SEG D r2 t) (hv : VS s) (hv2 : VS t) : Ei 2 j_X4_isAlike [.ref r, .ref r2] D (b2i ((decide (s.length = t.length) && decide (pl s = pl t)) && alB (likeF s t) 0 (pl s))) (D) := by
  refine E.start 2 (ls := [some (.ref r), some (.ref r2), none, none]) (by decide +kernel) (Nat.le_of_ble_eq_true rfl) rfl (Nat.le_refl _) (Nat.le_refl _) ?_
  obtain ⟨q1, q2, q3, q4, q5, q6⟩ := hr.facts
  obtain ⟨z1, z2, z3, z4, z5, z6⟩ := hr2.facts
  have hb := h.1
  have hb2 := pl_le s
  have hc := h2.1
  have hc2 := pl_le t
  refine X_aload_n (nx := 1) dX4_isAlike_0 rfl rfl rfl ?_
  refine M_getI (nx := 4) dX4_isAlike_1 rfl fl_RX4_26 rfl (by first | assumption | rfl | decide | omega) (by first | assumption | rfl | decide | omega) ?_
  refine X_top (h.2.1) ?_
  refine X_aload_n (nx := 5) dX4_isAlike_4 rfl rfl rfl ?_
  refine M_getI (nx := 8) dX4_isAlike_5 rfl fl_RX4_26 rfl (by first | assumption | rfl | decide | omega) (by first | assumption | rfl | decide | omega) ?_
  refine X_top (h2.2.1) ?_
  refine X_icmp_ne (tgt := 26) (nx := 11) dX4_isAlike_8 rfl rfl (fun h8 => ?_) (fun h8 => ?_)
  · skip
    rw [nI_eq (by omega) (by omega)] at h8
    refine X_iconst (v := 0) (nx := 27) dX4_isAlike_26 rfl rfl ?_
    refine X_istore_n (i := 2) (nx := 28) dX4_isAlike_27 rfl rfl (by decide) rfl (st_s (st_s (st_0))) ?_
    refine X_iconst (v := 0) (nx := 29) dX4_isAlike_28 rfl rfl ?_
    refine X_istore_n (i := 3) (nx := 30) dX4_isAlike_29 rfl rfl (by decide) rfl (st_s (st_s (st_s (st_0)))) ?_
    first
      | (rw [decide_eq_false h8]; exact lp_X4_isAlike hr hr2 h h2 hv hv2 (pl s) 0 false (by omega) (fun q => by cases q))
      | (rw [decide_eq_false h19, Bool.and_false]; exact lp_X4_isAlike hr hr2 h h2 hv hv2 (pl s) 0 false (by omega) (fun q => by cases q))
      | (rw [decide_eq_true h8, decide_eq_true h19]; exact lp_X4_isAlike hr hr2 h h2 hv hv2 (pl s) 0 true (by omega) (fun _ => h19))
  · skip
    rw [nI_eq (by omega) (by omega)] at h8
    refine X_aload_n (nx := 12) dX4_isAlike_11 rfl rfl rfl ?_
    refine M_getI (nx := 15) dX4_isAlike_12 rfl fl_RX4_29 rfl (by first | assumption | rfl | decide | omega) (by first | assumption | rfl | decide | omega) ?_
    refine X_top (h.2.2.1) ?_
    refine X_aload_n (nx := 16) dX4_isAlike_15 rfl rfl rfl ?_
    refine M_getI (nx := 19) dX4_isAlike_16 rfl fl_RX4_29 rfl (by first | assumption | rfl | decide | omega) (by first | assumption | rfl | decide | omega) ?_
    refine X_top (h2.2.2.1) ?_
    refine X_icmp_ne (tgt := 26) (nx := 22) dX4_isAlike_19 rfl rfl (fun h19 => ?_) (fun h19 => ?_)
    · skip
      rw [nI_eq (by omega) (by omega)] at h19
      refine X_iconst (v := 0) (nx := 27) dX4_isAlike_26 rfl rfl ?_
      refine X_istore_n (i := 2) (nx := 28) dX4_isAlike_27 rfl rfl (by decide) rfl (st_s (st_s (st_0))) ?_
      refine X_iconst (v := 0) (nx := 29) dX4_isAlike_28 rfl rfl ?_
      refine X_istore_n (i := 3) (nx := 30) dX4_isAlike_29 rfl rfl (by decide) rfl (st_s (st_s (st_s (st_0)))) ?_
      first
        | (rw [decide_eq_false h8]; exact lp_X4_isAlike hr hr2 h h2 hv hv2 (pl s) 0 false (by omega) (fun q => by cases q))
        | (rw [decide_eq_false h19, Bool.and_false]; exact lp_X4_isAlike hr hr2 h h2 hv hv2 (pl s) 0 false (by omega) (fun q => by cases q))
        | (rw [decide_eq_true h8, decide_eq_true h19]; exact lp_X4_isAlike hr hr2 h h2 hv hv2 (pl s) 0 true (by omega) (fun _ => h19))
    · skip
      rw [nI_eq (by omega) (by omega)] at h19
      refine X_iconst (v := 1) (nx := 23) dX4_isAlike_22 rfl rfl ?_
      refine X_goto (tgt := 27) dX4_isAlike_23 rfl ?_
      refine X_istore_n (i := 2) (nx := 28) dX4_isAlike_27 rfl rfl (by decide) rfl (st_s (st_s (st_0))) ?_
      refine X_iconst (v := 0) (nx := 29) dX4_isAlike_28 rfl rfl ?_
      refine X_istore_n (i := 3) (nx := 30) dX4_isAlike_29 rfl rfl (by decide) rfl (st_s (st_s (st_s (st_0)))) ?_
      first
        | (rw [decide_eq_false h8]; exact lp_X4_isAlike hr hr2 h h2 hv hv2 (pl s) 0 false (by omega) (fun q => by cases q))
        | (rw [decide_eq_false h19, Bool.and_false]; exact lp_X4_isAlike hr hr2 h h2 hv hv2 (pl s) 0 false (by omega) (fun q => by cases q))
        | (rw [decide_eq_true h8, decide_eq_true h19]; exact lp_X4_isAlike hr hr2 h h2 hv hv2 (pl s) 0 true (by omega) (fun _ => h19))
/-- whether a route by itself takes letters -/
def tkF (s L : List Nat) : Nat → Bool := fun k => fitT (typ (s.getD k 0)) (L.getD k 0)
def tkB (s : List Nat) (mt : Bool) (L : List Nat) : Bool := (if (decide (pl s < s.length) || mt) = true then decide (pl s ≤ L.length) else decide (L.length = pl s)) && alB (tkF s L) 0 (pl s)
theorem dX4_takes_0 : decode cX4_takes 0 = .ok (.aload_n 0, 1) := by decide +kernel
theorem dX4_takes_1 : decode cX4_takes 1 = .ok (.invokevirtual 59, 3) := by decide +kernel
theorem dX4_takes_4 : decode cX4_takes 4 = .ok (.ifCond .ne 10, 3) := by decide +kernel
theorem dX4_takes_7 : decode cX4_takes 7 = .ok (.aload_n 0, 1) := by decide +kernel
theorem dX4_takes_8 : decode cX4_takes 8 = .ok (.invokevirtual 62, 3) := by decide +kernel
theorem dX4_takes_11 : decode cX4_takes 11 = .ok (.ifCond .eq 7, 3) := by decide +kernel
theorem dX4_takes_14 : decode cX4_takes 14 = .ok (.iconst 1, 1) := by decide +kernel
theorem dX4_takes_15 : decode cX4_takes 15 = .ok (.goto 4, 3) := by decide +kernel
theorem dX4_takes_18 : decode cX4_takes 18 = .ok (.iconst 0, 1) := by decide +kernel
theorem dX4_takes_19 : decode cX4_takes 19 = .ok (.istore_n 2, 1) := by decide +kernel
theorem dX4_takes_20 : decode cX4_takes 20 = .ok (.iload_n 2, 1) := by decide +kernel
theorem dX4_takes_21 : decode cX4_takes 21 = .ok (.ifCond .eq 22, 3) := by decide +kernel
theorem dX4_takes_24 : decode cX4_takes 24 = .ok (.aload_n 1, 1) := by decide +kernel
theorem dX4_takes_25 : decode cX4_takes 25 = .ok (.getfield 65, 3) := by decide +kernel
theorem dX4_takes_28 : decode cX4_takes 28 = .ok (.aload_n 0, 1) := by decide +kernel
theorem dX4_takes_29 : decode cX4_takes 29 = .ok (.getfield 29, 3) := by decide +kernel
theorem dX4_takes_32 : decode cX4_takes 32 = .ok (.if_icmp .lt 7, 3) := by decide +kernel
theorem dX4_takes_35 : decode cX4_takes 35 = .ok (.iconst 1, 1) := by decide +kernel
theorem dX4_takes_36 : decode cX4_takes 36 = .ok (.goto 23, 3) := by decide +kernel
theorem dX4_takes_39 : decode cX4_takes 39 = .ok (.iconst 0, 1) := by decide +kernel
theorem dX4_takes_40 : decode cX4_takes 40 = .ok (.goto 19, 3) := by decide +kernel
theorem dX4_takes_43 : decode cX4_takes 43 = .ok (.aload_n 1, 1) := by decide +kernel
theorem dX4_takes_44 : decode cX4_takes 44 = .ok (.getfield 65, 3) := by decide +kernel
theorem dX4_takes_47 : decode cX4_takes 47 = .ok (.aload_n 0, 1) := by decide +kernel
theorem dX4_takes_48 : decode cX4_takes 48 = .ok (.getfield 29, 3) := by decide +kernel
theorem dX4_takes_51 : decode cX4_takes 51 = .ok (.if_icmp .ne 7, 3) := by decide +kernel
theorem dX4_takes_54 : decode cX4_takes 54 = .ok (.iconst 1, 1) := by decide +kernel
theorem dX4_takes_55 : decode cX4_takes 55 = .ok (.goto 4, 3) := by decide +kernel
theorem dX4_takes_58 : decode cX4_takes 58 = .ok (.iconst 0, 1) := by decide +kernel
theorem dX4_takes_59 : decode cX4_takes 59 = .ok (.istore_n 3, 1) := by decide +kernel
theorem dX4_takes_60 : decode cX4_takes 60 = .ok (.iconst 0, 1) := by decide +kernel
theorem dX4_takes_61 : decode cX4_takes 61 = .ok (.istore 4, 2) := by decide +kernel
theorem dX4_takes_63 : decode cX4_takes 63 = .ok (.iload_n 3, 1) := by decide +kernel
theorem dX4_takes_64 : decode cX4_takes 64 = .ok (.ifCond .eq 34, 3) := by decide +kernel
theorem dX4_takes_67 : decode cX4_takes 67 = .ok (.iload 4, 2) := by decide +kernel
theorem dX4_takes_69 : decode cX4_takes 69 = .ok (.aload_n 0, 1) := by decide +kernel
theorem dX4_takes_70 : decode cX4_takes 70 = .ok (.getfield 29, 3) := by decide +kernel
theorem dX4_takes_73 : decode cX4_takes 73 = .ok (.if_icmp .ge 25, 3) := by decide +kernel
theorem dX4_takes_76 : decode cX4_takes 76 = .ok (.aload_n 0, 1) := by decide +kernel
theorem dX4_takes_77 : decode cX4_takes 77 = .ok (.iload 4, 2) := by decide +kernel
theorem dX4_takes_79 : decode cX4_takes 79 = .ok (.invokevirtual 47, 3) := by decide +kernel
theorem dX4_takes_82 : decode cX4_takes 82 = .ok (.aload_n 1, 1) := by decide +kernel
theorem dX4_takes_83 : decode cX4_takes 83 = .ok (.iload 4, 2) := by decide +kernel
theorem dX4_takes_85 : decode cX4_takes 85 = .ok (.invokevirtual 68, 3) := by decide +kernel
theorem dX4_takes_88 : decode cX4_takes 88 = .ok (.invokestatic 71, 3) := by decide +kernel
theorem dX4_takes_91 : decode cX4_takes 91 = .ok (.istore_n 3, 1) := by decide +kernel
theorem dX4_takes_92 : decode cX4_takes 92 = .ok (.iinc 4 1, 3) := by decide +kernel
theorem dX4_takes_95 : decode cX4_takes 95 = .ok (.goto (-32), 3) := by decide +kernel
theorem dX4_takes_98 : decode cX4_takes 98 = .ok (.iload_n 3, 1) := by decide +kernel
theorem dX4_takes_99 : decode cX4_takes 99 = .ok (.ireturn, 1) := by decide +kernel
theorem lp_X4_takes {r p : Nat} {s L : List Nat} {D : Mem} (hr : isR r) (hp : isPa p) (h : SEG D r s) (h2 : LET D p L) (hv : VS s) : ∀ (m : Nat) (i : Nat) (a g : Bool), i + m = pl s → (a = true → pl s ≤ L.length) → X 2 138 j_X4_takes 63 [some (.ref r), some (.ref p), some (.int (b2i g)), some (.int (b2i a)), some (.int (nI i))] [] (138, P0, D) (fun x σ => x = [.int (b2i (a && alB (tkF s L) i m))] ∧ σ = wd D) := by
  intro m
  induction m with
  | zero =>
    intro i a g hi ha
    obtain ⟨q1, q2, q3, q4, q5, q6⟩ := hr.facts
    obtain ⟨z1, z2, z3, z4, z5, z6⟩ := hp.facts
    have hb := h.1
    have hb2 := pl_le s
    have hc := h2.1
    refine X_iload_n (nx := 64) dX4_takes_63 rfl rfl rfl ?_
    refine X_if_eq (tgt := 98) (nx := 67) dX4_takes_64 rfl rfl (fun h64 => ?_) (fun h64 => ?_)
    · skip
      refine X_iload_n (nx := 99) dX4_takes_98 rfl rfl rfl ?_
      exact Y_reti dX4_takes_99 (Or.inr ⟨rfl, by first | exact Or.inl rfl | exact Or.inr rfl | exact b2i_01 _ | assumption⟩) (by simp [alB]) rfl
    · skip
      refine X_iload (nx := 69) dX4_takes_67 rfl rfl ?_
      refine X_aload_n (nx := 70) dX4_takes_69 rfl rfl rfl ?_
      refine M_getI (nx := 73) dX4_takes_70 rfl fl_RX4_29 rfl (by first | assumption | rfl | decide | omega) (by first | assumption | rfl | decide | omega) ?_
      refine X_top (h.2.2.1) ?_
      refine X_icmp_ge (tgt := 98) (nx := 76) dX4_takes_73 rfl rfl (fun h73 => ?_) (fun h73 => ?_)
      · skip
        refine X_iload_n (nx := 99) dX4_takes_98 rfl rfl rfl ?_
        exact Y_reti dX4_takes_99 (Or.inr ⟨rfl, by first | exact Or.inl rfl | exact Or.inr rfl | exact b2i_01 _ | assumption⟩) (by simp [alB]) rfl
      · exact absurd h73 (fun q => q (nI_le (by omega) (by omega)))
  | succ m ih =>
    intro i a g hi ha
    obtain ⟨q1, q2, q3, q4, q5, q6⟩ := hr.facts
    obtain ⟨z1, z2, z3, z4, z5, z6⟩ := hp.facts
    have hb := h.1
    have hb2 := pl_le s
    have hc := h2.1
    refine X_iload_n (nx := 64) dX4_takes_63 rfl rfl rfl ?_
    refine X_if_eq (tgt := 98) (nx := 67) dX4_takes_64 rfl rfl (fun h64 => ?_) (fun h64 => ?_)
    · skip
      refine X_iload_n (nx := 99) dX4_takes_98 rfl rfl rfl ?_
      exact Y_reti dX4_takes_99 (Or.inr ⟨rfl, by first | exact Or.inl rfl | exact Or.inr rfl | exact b2i_01 _ | assumption⟩) (by rw [b2i_f.mp h64]; rfl) rfl
    · skip
      have hat := b2i_t.mp h64
      have hpp := ha hat
      refine X_iload (nx := 69) dX4_takes_67 rfl rfl ?_
      refine X_aload_n (nx := 70) dX4_takes_69 rfl rfl rfl ?_
      refine M_getI (nx := 73) dX4_takes_70 rfl fl_RX4_29 rfl (by first | assumption | rfl | decide | omega) (by first | assumption | rfl | decide | omega) ?_
      refine X_top (h.2.2.1) ?_
      refine X_icmp_ge (tgt := 98) (nx := 76) dX4_takes_73 rfl rfl (fun h73 => ?_) (fun h73 => ?_)
      · exact absurd h73 (nI_ge (by omega) (by omega))
      · skip
        refine X_aload_n (nx := 77) dX4_takes_76 rfl rfl rfl ?_
        refine X_iload (nx := 79) dX4_takes_77 rfl rfl ?_
        refine Y_Vi1 (nx := 82) dX4_takes_79 rfl ml_RX4_47 kj_X4_segmentAt kv_X4_segmentAt (sp_X4_segmentAt hr h rfl (by omega)) (by first | assumption | rfl | decide | omega) (by first | assumption | rfl | decide | omega) (by decide) rfl (by first | decide | omega) (by exact Nat.le_of_ble_eq_true rfl) ?_
        refine X_aload_n (nx := 83) dX4_takes_82 rfl rfl rfl ?_
        refine X_iload (nx := 85) dX4_takes_83 rfl rfl ?_
        refine Y_Vi1 (nx := 88) dX4_takes_85 rfl ml_RX4_68 kj_X2_at kv_X2_at (sp_X2_at hp.pl (h2.pil hp) rfl (by omega)) (by first | assumption | rfl | decide | omega) (by first | assumption | rfl | decide | omega) (by decide) rfl (by first | decide | omega) (by exact Nat.le_of_ble_eq_true rfl) ?_
        refine Y_Si2 (nx := 91) dX4_takes_88 rfl ml_RX4_71 kj_X7_fits ks_X7_fits (sp_X7_fits rfl (hv.plain (by omega)).1 rfl (h2.2.2.2 _ (getD_in (by omega)))) (by first | decide | omega) (by exact Nat.le_of_ble_eq_true rfl) ?_
        refine X_istore_n (i := 3) (nx := 92) dX4_takes_91 rfl rfl (by decide) rfl (st_s (st_s (st_s (st_0)))) ?_
        refine X_iinc (nx := 95) dX4_takes_92 rfl (by decide) rfl (by first | exact ii1 _ | rfl) rfl (st_s (st_s (st_s (st_s (st_0))))) ?_
        refine X_goto (tgt := 63) dX4_takes_95 rfl ?_
        rw [hat]
        exact ih (i + 1) (tkF s L i) g (by omega) (fun _ => hpp)
theorem tk_on {s L : List Nat} {mt : Bool} (h : (decide (pl s < s.length) || mt) = true) : tkB s mt L = (decide (pl s ≤ L.length) && alB (tkF s L) 0 (pl s)) := by unfold tkB; rw [if_pos h]
theorem tk_off {s L : List Nat} {mt : Bool} (h : ¬ (decide (pl s < s.length) || mt) = true) : tkB s mt L = (decide (L.length = pl s) && alB (tkF s L) 0 (pl s)) := by unfold tkB; rw [if_neg h]
theorem tk_20 {r p : Nat} {s L : List Nat} {mt g : Bool} {D : Mem} (hr : isR r) (hp : isPa p) (h : SEG D r s) (h2 : LET D p L) (hv : VS s) (hg : (decide (pl s < s.length) || mt) = g) : X 2 138 j_X4_takes 20 [some (.ref r), some (.ref p), some (.int (b2i g)), none, none] [] (138, P0, D) (fun x σ => x = [.int (b2i (tkB s mt L))] ∧ σ = wd D) := by
  obtain ⟨q1, q2, q3, q4, q5, q6⟩ := hr.facts
  obtain ⟨z1, z2, z3, z4, z5, z6⟩ := hp.facts
  have hb := h.1
  have hb2 := pl_le s
  have hc := h2.1
  refine X_iload_n (nx := 21) dX4_takes_20 rfl rfl rfl ?_
  refine X_if_eq (tgt := 43) (nx := 24) dX4_takes_21 rfl rfl (fun h21 => ?_) (fun h21 => ?_)
  · skip
    rw [b2i_f] at h21
    subst h21
    rw [tk_off (by rw [hg]; decide)]
    refine X_aload_n (nx := 44) dX4_takes_43 rfl rfl rfl ?_
    refine M_getI (nx := 47) dX4_takes_44 rfl fl_RX4_65 rfl (by first | assumption | rfl | decide | omega) (by first | assumption | rfl | decide | omega) ?_
    refine X_top (h2.2.1) ?_
    refine X_aload_n (nx := 48) dX4_takes_47 rfl rfl rfl ?_
    refine M_getI (nx := 51) dX4_takes_48 rfl fl_RX4_29 rfl (by first | assumption | rfl | decide | omega) (by first | assumption | rfl | decide | omega) ?_
    refine X_top (h.2.2.1) ?_
    refine X_icmp_ne (tgt := 58) (nx := 54) dX4_takes_51 rfl rfl (fun h51 => ?_) (fun h51 => ?_)
    · skip
      rw [nI_eq (by omega) (by omega)] at h51
      refine X_iconst (v := 0) (nx := 59) dX4_takes_58 rfl rfl ?_
      refine X_istore_n (i := 3) (nx := 60) dX4_takes_59 rfl rfl (by decide) rfl (st_s (st_s (st_s (st_0)))) ?_
      refine X_iconst (v := 0) (nx := 61) dX4_takes_60 rfl rfl ?_
      refine X_istore (i := 4) (nx := 63) dX4_takes_61 rfl (by decide) rfl (st_s (st_s (st_s (st_s (st_0))))) ?_
      first
        | (rw [decide_eq_true (show pl s ≤ L.length by omega)]; exact lp_X4_takes hr hp h h2 hv (pl s) 0 true true (by omega) (fun _ => by omega))
        | (rw [decide_eq_false (show ¬ pl s ≤ L.length by omega)]; exact lp_X4_takes hr hp h h2 hv (pl s) 0 false true (by omega) (fun q => by cases q))
        | (rw [decide_eq_true (show L.length = pl s by omega)]; exact lp_X4_takes hr hp h h2 hv (pl s) 0 true false (by omega) (fun _ => by omega))
        | (rw [decide_eq_false (show ¬ L.length = pl s by omega)]; exact lp_X4_takes hr hp h h2 hv (pl s) 0 false false (by omega) (fun q => by cases q))
    · skip
      rw [nI_eq (by omega) (by omega)] at h51
      refine X_iconst (v := 1) (nx := 55) dX4_takes_54 rfl rfl ?_
      refine X_goto (tgt := 59) dX4_takes_55 rfl ?_
      refine X_istore_n (i := 3) (nx := 60) dX4_takes_59 rfl rfl (by decide) rfl (st_s (st_s (st_s (st_0)))) ?_
      refine X_iconst (v := 0) (nx := 61) dX4_takes_60 rfl rfl ?_
      refine X_istore (i := 4) (nx := 63) dX4_takes_61 rfl (by decide) rfl (st_s (st_s (st_s (st_s (st_0))))) ?_
      first
        | (rw [decide_eq_true (show pl s ≤ L.length by omega)]; exact lp_X4_takes hr hp h h2 hv (pl s) 0 true true (by omega) (fun _ => by omega))
        | (rw [decide_eq_false (show ¬ pl s ≤ L.length by omega)]; exact lp_X4_takes hr hp h h2 hv (pl s) 0 false true (by omega) (fun q => by cases q))
        | (rw [decide_eq_true (show L.length = pl s by omega)]; exact lp_X4_takes hr hp h h2 hv (pl s) 0 true false (by omega) (fun _ => by omega))
        | (rw [decide_eq_false (show ¬ L.length = pl s by omega)]; exact lp_X4_takes hr hp h h2 hv (pl s) 0 false false (by omega) (fun q => by cases q))
  · skip
    rw [b2i_t] at h21
    subst h21
    rw [tk_on hg]
    refine X_aload_n (nx := 25) dX4_takes_24 rfl rfl rfl ?_
    refine M_getI (nx := 28) dX4_takes_25 rfl fl_RX4_65 rfl (by first | assumption | rfl | decide | omega) (by first | assumption | rfl | decide | omega) ?_
    refine X_top (h2.2.1) ?_
    refine X_aload_n (nx := 29) dX4_takes_28 rfl rfl rfl ?_
    refine M_getI (nx := 32) dX4_takes_29 rfl fl_RX4_29 rfl (by first | assumption | rfl | decide | omega) (by first | assumption | rfl | decide | omega) ?_
    refine X_top (h.2.2.1) ?_
    refine X_icmp_lt (tgt := 39) (nx := 35) dX4_takes_32 rfl rfl (fun h32 => ?_) (fun h32 => ?_)
    · skip
      rw [nI_ltI (by omega) (by omega)] at h32
      refine X_iconst (v := 0) (nx := 40) dX4_takes_39 rfl rfl ?_
      refine X_goto (tgt := 59) dX4_takes_40 rfl ?_
      refine X_istore_n (i := 3) (nx := 60) dX4_takes_59 rfl rfl (by decide) rfl (st_s (st_s (st_s (st_0)))) ?_
      refine X_iconst (v := 0) (nx := 61) dX4_takes_60 rfl rfl ?_
      refine X_istore (i := 4) (nx := 63) dX4_takes_61 rfl (by decide) rfl (st_s (st_s (st_s (st_s (st_0))))) ?_
      first
        | (rw [decide_eq_true (show pl s ≤ L.length by omega)]; exact lp_X4_takes hr hp h h2 hv (pl s) 0 true true (by omega) (fun _ => by omega))
        | (rw [decide_eq_false (show ¬ pl s ≤ L.length by omega)]; exact lp_X4_takes hr hp h h2 hv (pl s) 0 false true (by omega) (fun q => by cases q))
        | (rw [decide_eq_true (show L.length = pl s by omega)]; exact lp_X4_takes hr hp h h2 hv (pl s) 0 true false (by omega) (fun _ => by omega))
        | (rw [decide_eq_false (show ¬ L.length = pl s by omega)]; exact lp_X4_takes hr hp h h2 hv (pl s) 0 false false (by omega) (fun q => by cases q))
    · skip
      rw [nI_ltI (by omega) (by omega)] at h32
      refine X_iconst (v := 1) (nx := 36) dX4_takes_35 rfl rfl ?_
      refine X_goto (tgt := 59) dX4_takes_36 rfl ?_
      refine X_istore_n (i := 3) (nx := 60) dX4_takes_59 rfl rfl (by decide) rfl (st_s (st_s (st_s (st_0)))) ?_
      refine X_iconst (v := 0) (nx := 61) dX4_takes_60 rfl rfl ?_
      refine X_istore (i := 4) (nx := 63) dX4_takes_61 rfl (by decide) rfl (st_s (st_s (st_s (st_s (st_0))))) ?_
      first
        | (rw [decide_eq_true (show pl s ≤ L.length by omega)]; exact lp_X4_takes hr hp h h2 hv (pl s) 0 true true (by omega) (fun _ => by omega))
        | (rw [decide_eq_false (show ¬ pl s ≤ L.length by omega)]; exact lp_X4_takes hr hp h h2 hv (pl s) 0 false true (by omega) (fun q => by cases q))
        | (rw [decide_eq_true (show L.length = pl s by omega)]; exact lp_X4_takes hr hp h h2 hv (pl s) 0 true false (by omega) (fun _ => by omega))
        | (rw [decide_eq_false (show ¬ L.length = pl s by omega)]; exact lp_X4_takes hr hp h h2 hv (pl s) 0 false false (by omega) (fun q => by cases q))
theorem sp_X4_takes {r p : Nat} {s L : List Nat} {mt : Bool} {D : Mem} (hr : isR r) (hp : isPa p) (h : SEG D r s) (h2 : LET D p L) (hv : VS s) (hm : mt = decide (0 ≤ D r 5)) : Ei 2 j_X4_takes [.ref r, .ref p] D (b2i (tkB s mt L)) (D) := by
  refine E.start 3 (ls := [some (.ref r), some (.ref p), none, none, none]) (by decide +kernel) (Nat.le_of_ble_eq_true rfl) rfl (Nat.le_refl _) (Nat.le_refl _) ?_
  obtain ⟨q1, q2, q3, q4, q5, q6⟩ := hr.facts
  obtain ⟨z1, z2, z3, z4, z5, z6⟩ := hp.facts
  have hb := h.1
  have hb2 := pl_le s
  have hc := h2.1
  refine X_aload_n (nx := 1) dX4_takes_0 rfl rfl rfl ?_
  refine Y_Vi0 (nx := 4) dX4_takes_1 rfl ml_RX4_59 kj_X4_hasRest kv_X4_hasRest (sp_X4_hasRest hr h) (by first | assumption | rfl | decide | omega) (by first | assumption | rfl | decide | omega) (by decide) rfl (by first | decide | omega) (by exact Nat.le_of_ble_eq_true rfl) ?_
  refine X_if_ne (tgt := 14) (nx := 7) dX4_takes_4 rfl rfl (fun h4 => ?_) (fun h4 => ?_)
  · skip
    rw [b2i_t] at h4
    have hg : (decide (pl s < s.length) || mt) = true := by rw [h4]; rfl
    refine X_iconst (v := 1) (nx := 15) dX4_takes_14 rfl rfl ?_
    refine X_goto (tgt := 19) dX4_takes_15 rfl ?_
    refine X_istore_n (i := 2) (nx := 20) dX4_takes_19 rfl rfl (by decide) rfl (st_s (st_s (st_0))) ?_
    exact tk_20 hr hp h h2 hv hg
  · skip
    rw [b2i_f] at h4
    refine X_aload_n (nx := 8) dX4_takes_7 rfl rfl rfl ?_
    refine Y_Vi0 (nx := 11) dX4_takes_8 rfl ml_RX4_62 kj_X4_isMount kv_X4_isMount (sp_X4_isMount hr) (by first | assumption | rfl | decide | omega) (by first | assumption | rfl | decide | omega) (by decide) rfl (by first | decide | omega) (by exact Nat.le_of_ble_eq_true rfl) ?_
    refine X_if_eq (tgt := 18) (nx := 14) dX4_takes_11 rfl rfl (fun h11 => ?_) (fun h11 => ?_)
    · skip
      rw [← hm, b2i_f] at h11
      have hg : (decide (pl s < s.length) || mt) = false := by rw [h4, h11]; rfl
      refine X_iconst (v := 0) (nx := 19) dX4_takes_18 rfl rfl ?_
      refine X_istore_n (i := 2) (nx := 20) dX4_takes_19 rfl rfl (by decide) rfl (st_s (st_s (st_0))) ?_
      exact tk_20 hr hp h h2 hv hg
    · skip
      rw [← hm, b2i_t] at h11
      have hg : (decide (pl s < s.length) || mt) = true := by rw [h11, Bool.or_true]
      refine X_iconst (v := 1) (nx := 15) dX4_takes_14 rfl rfl ?_
      refine X_goto (tgt := 19) dX4_takes_15 rfl ?_
      refine X_istore_n (i := 2) (nx := 20) dX4_takes_19 rfl rfl (by decide) rfl (st_s (st_s (st_0))) ?_
      exact tk_20 hr hp h h2 hv hg
