/-! TABLES: the form gives the signs of each statement -/
def fok (t : List Nat) : Prop := (∀ k, k ≤ t.length → qs t k ≠ 10) ∧ qs t t.length = 0 ∧ 0 < t.length
theorem ffp_none {t : List Nat} (h : ffp t = none) : fok t := by
  unfold ffp at h
  cases hf : fst_ (fun k => decide (qs t (k + 1) = 10)) 0 t.length with
  | some k => rw [hf] at h; cases h
  | none =>
    rw [hf] at h
    by_cases e : qs t t.length = 0 ∧ 0 < t.length
    · refine ⟨fun k hk => ?_, e.1, e.2⟩
      match k with
      | 0 => exact fun q => absurd q (by decide : (0 : Nat) ≠ 10)
      | k + 1 => exact of_decide_eq_false (fst_none hf k (Nat.zero_le _) (by omega))
    · simp only [if_neg e] at h
      cases h
theorem ffp_le {t : List Nat} {p : Nat} (h : ffp t = some p) : p ≤ t.length := by
  unfold ffp at h
  cases hf : fst_ (fun k => decide (qs t (k + 1) = 10)) 0 t.length with
  | some k => rw [hf] at h; cases h; have := fst_some hf; omega
  | none =>
    rw [hf] at h
    by_cases e : qs t t.length = 0 ∧ 0 < t.length
    · simp only [if_pos e] at h; cases h
    · simp only [if_neg e] at h; cases h; exact Nat.le_refl _
theorem i_0 {c : Nat} (h : dl 0 c ≠ 10) : ((c = 114 ∨ c = 109) ∧ dl 0 c = 1) ∨ (c = 107 ∧ dl 0 c = 6) ∨ (c = 120 ∧ dl 0 c = 8) := by
  by_cases h1 : c = 114 ∨ c = 109
  · exact Or.inl ⟨h1, by simp [dl, h1]⟩
  · by_cases h2 : c = 107
    · subst h2; exact Or.inr (Or.inl ⟨rfl, by decide⟩)
    · by_cases h3 : c = 120
      · subst h3; exact Or.inr (Or.inr ⟨rfl, by decide⟩)
      · exact absurd (by simp [dl, h1, h2, h3]) h
theorem i_1 {c : Nat} (h : dl 1 c ≠ 10) : dig c = true ∧ dl 1 c = 2 := by cases e : dig c <;> simp [dl, e] at h ⊢
theorem i_2 {c : Nat} (h : dl 2 c ≠ 10) : dig c = true ∧ dl 2 c = 3 := by cases e : dig c <;> simp [dl, e] at h ⊢
theorem i_5 {c : Nat} (h : dl 5 c ≠ 10) : dig c = true ∧ dl 5 c = 3 := by cases e : dig c <;> simp [dl, e] at h ⊢
theorem i_6 {c : Nat} (h : dl 6 c ≠ 10) : dig c = true ∧ dl 6 c = 7 := by cases e : dig c <;> simp [dl, e] at h ⊢
theorem i_7 {c : Nat} (h : dl 7 c ≠ 10) : dig c = true ∧ dl 7 c = 8 := by cases e : dig c <;> simp [dl, e] at h ⊢
theorem i_8 {c : Nat} (h : dl 8 c ≠ 10) : dig c = true ∧ dl 8 c = 9 := by cases e : dig c <;> simp [dl, e] at h ⊢
theorem i_9 {c : Nat} (h : dl 9 c ≠ 10) : c = 59 ∧ dl 9 c = 0 := by
  by_cases e : c = 59
  · subst e; exact ⟨rfl, by decide⟩
  · exact absurd (by simp [dl, e]) h
theorem i_3 {c : Nat} (h : dl 3 c ≠ 10) : (c = 47 ∧ dl 3 c = 4) ∨ (c = 59 ∧ dl 3 c = 0) := by
  by_cases e : c = 47
  · subst e; exact Or.inl ⟨rfl, by decide⟩
  · by_cases e2 : c = 59
    · subst e2; exact Or.inr ⟨rfl, by decide⟩
    · exact absurd (by simp [dl, e, e2]) h
theorem i_4 {c : Nat} (h : dl 4 c ≠ 10) : (nam c = true ∧ dl 4 c = 5) ∨ (nam c = false ∧ (c = 42 ∨ (97 ≤ c ∧ c ≤ 100)) ∧ dl 4 c = 3) := by
  cases e : nam c with
  | true => exact Or.inl ⟨rfl, by simp [dl, e]⟩
  | false =>
    by_cases e2 : c = 42 ∨ (97 ≤ c ∧ c ≤ 100)
    · exact Or.inr ⟨rfl, e2, by simp only [dl, e]; simp; omega⟩
    · exact absurd (by simp only [dl, e]; simp; omega) h
theorem dig_b {c : Nat} (h : dig c = true) : 48 ≤ c ∧ c ≤ 57 := of_decide_eq_true h
theorem nam_47 {c : Nat} (h : nam c = true) : c ≠ 47 := by intro e; subst e; exact absurd h (by decide)
theorem fok.alive {t : List Nat} (h : fok t) {k : Nat} (hk : k < t.length) : dl (qs t k) (t.getD k 0) ≠ 10 := h.1 (k + 1) hk
theorem fok.inl {t : List Nat} (h : fok t) {k : Nat} (hk : k ≤ t.length) (h0 : qs t k ≠ 0) : k < t.length := by
  by_cases e : k = t.length
  · subst e; exact absurd h.2.1 h0
  · omega
/-- behind the digits of an END or a MOUNT the states of segments, up to the close -/
theorem seg_st {t : List Nat} (h : fok t) {a cl : Nat} (ha : qs t a = 3) (hcl : cl < t.length) (hn : ∀ k, a ≤ k → k < cl → t.getD k 0 ≠ 59) : ∀ m, a + m ≤ cl → qs t (a + m) = 3 ∨ qs t (a + m) = 4 ∨ qs t (a + m) = 5 := by
  intro m
  induction m with
  | zero => intro _; exact Or.inl ha
  | succ m ih =>
    intro hm
    have h1 := ih (by omega)
    have h2 := h.alive (k := a + m) (by omega)
    have h3 := hn (a + m) (by omega) (by omega)
    show dl (qs t (a + m)) (t.getD (a + m) 0) = 3 ∨ dl (qs t (a + m)) (t.getD (a + m) 0) = 4 ∨ dl (qs t (a + m)) (t.getD (a + m) 0) = 5
    rcases h1 with e | e | e
    · rw [e] at h2 ⊢
      rcases i_3 h2 with q | q
      · exact Or.inr (Or.inl q.2)
      · exact absurd q.1 h3
    · rw [e] at h2 ⊢
      rcases i_4 h2 with q | q
      · exact Or.inr (Or.inr q.2)
      · exact Or.inl q.2.2
    · rw [e] at h2 ⊢
      exact Or.inl (i_5 h2).2
theorem seg_sfm {t : List Nat} (h : fok t) {a cl : Nat} (ha : qs t a = 3) (hcl : cl < t.length) (hn : ∀ k, a ≤ k → k < cl → t.getD k 0 ≠ 59) : ∀ k, a ≤ k → k < cl → t.getD k 0 = 47 → sfm t k := by
  intro k h1 h2 h47
  have hs := seg_st h ha hcl hn (k - a) (by omega)
  rw [show a + (k - a) = k by omega] at hs
  have hl := h.alive (k := k) (by omega)
  have h3 : qs t k = 3 := by
    rcases hs with e | e | e
    · exact e
    · rw [e, h47] at hl; exact absurd (by decide) hl
    · rw [e, h47] at hl; exact absurd (by decide) hl
  have h4 : qs t (k + 1) = 4 := by
    show dl (qs t k) (t.getD k 0) = 4
    rw [h3, h47]; decide
  have hk1 : k + 1 < t.length := by omega
  have hl1 := h.alive hk1
  rw [h4] at hl1
  refine ⟨hk1, ?_⟩
  rcases i_4 hl1 with q | q
  · have h5 : qs t (k + 2) = 5 := by
      show dl (qs t (k + 1)) (t.getD (k + 1) 0) = 5
      rw [h4]; exact q.2
    have hk2 : k + 2 < t.length := h.inl (by omega) (by rw [h5]; decide)
    have hl2 := h.alive hk2
    rw [h5] at hl2
    exact Or.inl ⟨q.1, hk2, (i_5 hl2).1⟩
  · exact Or.inr ⟨q.1, q.2.1⟩
theorem stm_of {t : List Nat} (h : fok t) {st cl : Nat} (h0 : qs t st = 0) (hle : st ≤ cl) (hcl : cl < t.length) (hn : ∀ k, st ≤ k → k < cl → t.getD k 0 ≠ 59) (h59 : t.getD cl 0 = 59) : stm t st cl := by
  have l0 := h.alive (k := st) (by omega)
  have q1 : qs t (st + 1) = dl 0 (t.getD st 0) := by
    show dl (qs t st) (t.getD st 0) = _
    rw [h0]
  rw [h0] at l0
  have hk1 : st + 1 < t.length := h.inl (by omega) (by
    rw [q1]
    rcases i_0 l0 with q | q | q
    · rw [q.2]; decide
    · rw [q.2]; decide
    · rw [q.2]; decide)
  have l1 := h.alive hk1
  have q2 : qs t (st + 2) = dl (qs t (st + 1)) (t.getD (st + 1) 0) := rfl
  rcases i_0 l0 with ⟨c0, e1⟩ | ⟨c0, e1⟩ | ⟨c0, e1⟩
  · rw [q1, e1] at l1
    rw [q1, e1, (i_1 l1).2] at q2
    have d1 := dig_b (i_1 l1).1
    have hk2 : st + 2 < t.length := h.inl (by omega) (by rw [q2]; decide)
    have l2 := h.alive hk2
    rw [q2] at l2
    have d2 := dig_b (i_2 l2).1
    have q3 : qs t (st + 3) = 3 := by
      show dl (qs t (st + 2)) (t.getD (st + 2) 0) = 3
      rw [q2]; exact (i_2 l2).2
    have hc : st + 3 ≤ cl := by
      by_cases a0 : cl = st
      · subst a0; omega
      · by_cases a1 : cl = st + 1
        · subst a1; omega
        · by_cases a2 : cl = st + 2
          · subst a2; omega
          · omega
    exact ⟨hcl, hk2, d1, d2.1, Or.inl ⟨c0, d2.2, hc, seg_sfm h q3 hcl (fun k a b => hn k (by omega) b)⟩⟩
  · rw [q1, e1] at l1
    rw [q1, e1, (i_6 l1).2] at q2
    have d1 := dig_b (i_6 l1).1
    have hk2 : st + 2 < t.length := h.inl (by omega) (by rw [q2]; decide)
    have l2 := h.alive hk2
    rw [q2] at l2
    have d2 := dig_b (i_7 l2).1
    have q3 : qs t (st + 3) = 8 := by
      show dl (qs t (st + 2)) (t.getD (st + 2) 0) = 8
      rw [q2]; exact (i_7 l2).2
    have hk3 : st + 3 < t.length := h.inl (by omega) (by rw [q3]; decide)
    have l3 := h.alive hk3
    rw [q3] at l3
    have d3 := dig_b (i_8 l3).1
    exact ⟨hcl, hk2, d1, d2.1, Or.inr (Or.inl ⟨c0, d2.2, hk3, d3.1, d3.2⟩)⟩
  · rw [q1, e1] at l1
    rw [q1, e1, (i_8 l1).2] at q2
    have d1 := dig_b (i_8 l1).1
    have hk2 : st + 2 < t.length := h.inl (by omega) (by rw [q2]; decide)
    have l2 := h.alive hk2
    rw [q2] at l2
    have d2 := i_9 l2
    exact ⟨hcl, hk2, d1, by omega, Or.inr (Or.inr c0)⟩
theorem qs_59 {t : List Nat} (h : fok t) {k : Nat} (hk : k < t.length) (h59 : t.getD k 0 = 59) : qs t (k + 1) = 0 := by
  have l := h.alive hk
  have hq := qs_le t k
  show dl (qs t k) (t.getD k 0) = 0
  rw [h59] at l ⊢
  have : ∀ q, q ≤ 10 → dl q 59 ≠ 10 → dl q 59 = 0 := by decide
  exact this _ hq l
theorem m2000_neg : ∀ k, k < 200 → ((-2000 : Int32) - nI k) < 0 := by decide +kernel
theorem m1000_neg : ∀ k, k < 201 → ((-1000 : Int32) - nI k) < 0 := by decide +kernel
/-- what read leaves -/
def RD (D D' : Mem) (u : Int32) (r : Int32 × Option Bk) : Prop := Fr (inB 27) D D' ∧ ZB D' 27 ∧ u = r.1 ∧ match r.2 with
  | none => u < 0
  | some B => 0 ≤ u ∧ Enc D' 27 B ∧ VB B ∧ PDB B
theorem RD.step {D D1 D2 : Mem} {u : Int32} {r : Int32 × Option Bk} (h1 : Fr (inB 27) D D1) (h : RD D1 D2 u r) : RD D D2 u r := ⟨h1.tr h.1, h.2⟩
theorem OB.n0 {D D' : Mem} {u : Int32} {o : Option Bk} (h : OB D D' u o) (hu : u = 0) : o = none := by
  cases o with
  | none => rfl
  | some s => exact absurd (h.2.2.1.symm.trans hu) (by decide)
theorem OB.n1 {D D' : Mem} {u : Int32} {o : Option Bk} (h : OB D D' u o) (hu : ¬ u = 0) : ∃ B, o = some B ∧ Enc D' 27 B ∧ VB B ∧ PDB B := by
  cases o with
  | none => exact absurd h.2.2 hu
  | some s => exact ⟨s, rfl, h.2.2.2⟩
theorem rdS_0 {t : List Nat} {i m st n : Nat} {B : Bk} (h : t.getD i 0 = 59) (h2 : obS t st i B = none) : rdS t i (m + 1) st n B = (-2000 - nI st, none) := by
  rw [rdS, if_pos h, h2]
theorem rdS_1 {t : List Nat} {i m st n : Nat} {B B' : Bk} (h : t.getD i 0 = 59) (h2 : obS t st i B = some B') : rdS t i (m + 1) st n B = rdS t (i + 1) m (i + 1) (n + 1) B' := by
  rw [rdS, if_pos h, h2]
theorem rdS_n {t : List Nat} {i m st n : Nat} {B : Bk} (h : ¬ t.getD i 0 = 59) : rdS t i (m + 1) st n B = rdS t (i + 1) m st n B := by
  rw [rdS, if_neg h]
theorem dX3_read_0 : decode cX3_read 0 = .ok (.aload_n 0, 1) := by decide +kernel
theorem dX3_read_1 : decode cX3_read 1 = .ok (.invokestatic 9, 3) := by decide +kernel
theorem dX3_read_4 : decode cX3_read 4 = .ok (.istore_n 2, 1) := by decide +kernel
theorem dX3_read_5 : decode cX3_read 5 = .ok (.iload_n 2, 1) := by decide +kernel
theorem dX3_read_6 : decode cX3_read 6 = .ok (.ifCond .lt 9, 3) := by decide +kernel
theorem dX3_read_9 : decode cX3_read 9 = .ok (.sipush (-1000), 3) := by decide +kernel
theorem dX3_read_12 : decode cX3_read 12 = .ok (.iload_n 2, 1) := by decide +kernel
theorem dX3_read_13 : decode cX3_read 13 = .ok (.isub, 1) := by decide +kernel
theorem dX3_read_14 : decode cX3_read 14 = .ok (.ireturn, 1) := by decide +kernel
theorem dX3_read_15 : decode cX3_read 15 = .ok (.iconst 0, 1) := by decide +kernel
theorem dX3_read_16 : decode cX3_read 16 = .ok (.istore_n 3, 1) := by decide +kernel
theorem dX3_read_17 : decode cX3_read 17 = .ok (.iconst 0, 1) := by decide +kernel
theorem dX3_read_18 : decode cX3_read 18 = .ok (.istore 4, 2) := by decide +kernel
theorem dX3_read_20 : decode cX3_read 20 = .ok (.iconst 0, 1) := by decide +kernel
theorem dX3_read_21 : decode cX3_read 21 = .ok (.istore 5, 2) := by decide +kernel
theorem dX3_read_23 : decode cX3_read 23 = .ok (.iload 5, 2) := by decide +kernel
theorem dX3_read_25 : decode cX3_read 25 = .ok (.aload_n 0, 1) := by decide +kernel
theorem dX3_read_26 : decode cX3_read 26 = .ok (.getfield 15, 3) := by decide +kernel
theorem dX3_read_29 : decode cX3_read 29 = .ok (.if_icmp .ge 48, 3) := by decide +kernel
theorem dX3_read_32 : decode cX3_read 32 = .ok (.aload_n 0, 1) := by decide +kernel
theorem dX3_read_33 : decode cX3_read 33 = .ok (.iload 5, 2) := by decide +kernel
theorem dX3_read_35 : decode cX3_read 35 = .ok (.invokevirtual 21, 3) := by decide +kernel
theorem dX3_read_38 : decode cX3_read 38 = .ok (.bipush 59, 2) := by decide +kernel
theorem dX3_read_40 : decode cX3_read 40 = .ok (.if_icmp .ne 31, 3) := by decide +kernel
theorem dX3_read_43 : decode cX3_read 43 = .ok (.aload_n 0, 1) := by decide +kernel
theorem dX3_read_44 : decode cX3_read 44 = .ok (.iload 4, 2) := by decide +kernel
theorem dX3_read_46 : decode cX3_read 46 = .ok (.iload 5, 2) := by decide +kernel
theorem dX3_read_48 : decode cX3_read 48 = .ok (.aload_n 1, 1) := by decide +kernel
theorem dX3_read_49 : decode cX3_read 49 = .ok (.invokestatic 25, 3) := by decide +kernel
theorem dX3_read_52 : decode cX3_read 52 = .ok (.ifCond .ne 10, 3) := by decide +kernel
theorem dX3_read_55 : decode cX3_read 55 = .ok (.sipush (-2000), 3) := by decide +kernel
theorem dX3_read_58 : decode cX3_read 58 = .ok (.iload 4, 2) := by decide +kernel
theorem dX3_read_60 : decode cX3_read 60 = .ok (.isub, 1) := by decide +kernel
theorem dX3_read_61 : decode cX3_read 61 = .ok (.ireturn, 1) := by decide +kernel
theorem dX3_read_62 : decode cX3_read 62 = .ok (.iinc 3 1, 3) := by decide +kernel
theorem dX3_read_65 : decode cX3_read 65 = .ok (.iload 5, 2) := by decide +kernel
theorem dX3_read_67 : decode cX3_read 67 = .ok (.iconst 1, 1) := by decide +kernel
theorem dX3_read_68 : decode cX3_read 68 = .ok (.iadd, 1) := by decide +kernel
theorem dX3_read_69 : decode cX3_read 69 = .ok (.istore 4, 2) := by decide +kernel
theorem dX3_read_71 : decode cX3_read 71 = .ok (.iinc 5 1, 3) := by decide +kernel
theorem dX3_read_74 : decode cX3_read 74 = .ok (.goto (-51), 3) := by decide +kernel
theorem dX3_read_77 : decode cX3_read 77 = .ok (.iload_n 3, 1) := by decide +kernel
theorem dX3_read_78 : decode cX3_read 78 = .ok (.ireturn, 1) := by decide +kernel
theorem lp_X3_read {t : List Nat} {y : Int32} (h256 : ∀ x ∈ t, x < 256) (hl : t.length < 200) (hk : fok t) : ∀ (m : Nat) (i st n : Nat) (B : Bk) (D : Mem), i + m = t.length → n ≤ i → PIL D 96 t → Enc D 27 B → VB B → PDB B → ZB D 27 → qs t st = 0 → st ≤ i → (∀ k, st ≤ k → k < i → t.getD k 0 ≠ 59) → X 6 138 j_X3_read 23 [some (.ref 96), some (.ref 27), some (.int y), some (.int (nI n)), some (.int (nI st)), some (.int (nI i))] [] (138, P0, D) (fun x σ => ∃ (u : Int32) (D' : Mem), x = [.int u] ∧ σ = wd D' ∧ RD D D' u (rdS t i m st n B)) := by
  intro m
  induction m with
  | zero =>
    intro i st n B D hi hni hP hE hV hPB hz h0 hle hn
    refine X_iload (nx := 25) dX3_read_23 rfl rfl ?_
    refine X_aload_n (nx := 26) dX3_read_25 rfl rfl rfl ?_
    refine M_getI (nx := 29) dX3_read_26 rfl fl_RX3_15 rfl (by first | assumption | rfl | decide | omega) (by first | assumption | rfl | decide | omega) ?_
    refine X_top (hP.2.1) ?_
    refine X_icmp_ge (tgt := 77) (nx := 32) dX3_read_29 rfl rfl (fun h29 => ?_) (fun h29 => ?_)
    · skip
      refine X_iload_n (nx := 78) dX3_read_77 rfl rfl rfl ?_
      exact Z_reti dX3_read_78 (Or.inl rfl) ⟨Fr.rf, hz, rfl, nI_pos' (by omega), hE, hV, hPB⟩
    · exact absurd h29 (fun q => q (nI_le (by omega) (by omega)))
  | succ m ih =>
    intro i st n B D hi hni hP hE hV hPB hz h0 hle hn
    have hci : t.getD i 0 < 256 := getD_lt h256 (by omega)
    refine X_iload (nx := 25) dX3_read_23 rfl rfl ?_
    refine X_aload_n (nx := 26) dX3_read_25 rfl rfl rfl ?_
    refine M_getI (nx := 29) dX3_read_26 rfl fl_RX3_15 rfl (by first | assumption | rfl | decide | omega) (by first | assumption | rfl | decide | omega) ?_
    refine X_top (hP.2.1) ?_
    refine X_icmp_ge (tgt := 77) (nx := 32) dX3_read_29 rfl rfl (fun h29 => ?_) (fun h29 => ?_)
    · exact absurd h29 (nI_ge (by omega) (by omega))
    · skip
      refine X_aload_n (nx := 33) dX3_read_32 rfl rfl rfl ?_
      refine X_iload (nx := 35) dX3_read_33 rfl rfl ?_
      refine Y_Vi1 (nx := 38) dX3_read_35 rfl ml_RX3_21 kj_X2_at kv_X2_at (sp_X2_at (Or.inl rfl) hP rfl (by omega)) (by first | assumption | rfl | decide | omega) (by first | assumption | rfl | decide | omega) (by decide) rfl (by first | decide | omega) (by exact Nat.le_of_ble_eq_true rfl) ?_
      refine X_bipush (v := nI 59) (nx := 40) dX3_read_38 rfl rfl ?_
      refine X_icmp_ne (tgt := 71) (nx := 43) dX3_read_40 rfl rfl (fun h40 => ?_) (fun h40 => ?_)
      · skip
        rw [nI_eq (by omega) (by omega)] at h40
        rw [rdS_n h40]
        first
          | (refine X_iinc (nx := 74) dX3_read_71 rfl (by decide) rfl (ii1 _) rfl (st_s (st_s (st_s (st_s (st_s (st_0)))))) ?_
             refine X_goto (tgt := 23) dX3_read_74 rfl ?_
             exact ih (i + 1) st n B D (by omega) (by omega) hP hE hV hPB hz h0 (by omega) (fun k a b => by
               by_cases e : k = i
               · subst e; exact h40
               · exact hn k a (by omega)))
          | (refine X_iinc (nx := 74) dX3_read_71 rfl (by decide) rfl (ii1 _) rfl (st_s (st_s (st_s (st_s (st_s (st_0)))))) ?_
             refine X_goto (tgt := 23) dX3_read_74 rfl ?_
             refine X.mono (ih (i + 1) (i + 1) (n + 1) B2 D49 (by omega) (by omega) (hP.fr (g49.1 96 (by unfold inB; omega)) (g49.1 97 (by unfold inB; omega))) hE2 hV2 hP2 g49.2.1 (qs_59 hk (by omega) h40) (Nat.le_refl _) (fun k a b => absurd a (by omega))) (fun vs σ' hq => ?_)
             obtain ⟨u, D', e1, e2, e3⟩ := hq
             exact ⟨u, D', e1, e2, e3.step g49.1⟩)
      · skip
        rw [nI_eq (by omega) (by omega)] at h40
        refine X_aload_n (nx := 44) dX3_read_43 rfl rfl rfl ?_
        refine X_iload (nx := 46) dX3_read_44 rfl rfl ?_
        refine X_iload (nx := 48) dX3_read_46 rfl rfl ?_
        refine X_aload_n (nx := 49) dX3_read_48 rfl rfl rfl ?_
        refine Z_Si4 (nx := 52) dX3_read_49 rfl ml_RX3_25 kj_X3_obey ks_X3_obey (sp_X3_obey hP h256 hl hE hV hPB hz rfl rfl (stm_of hk h0 hle (by omega) hn h40)) (by first | decide | omega) (by exact Nat.le_of_ble_eq_true rfl) (fun u49 D49 g49 => ?_)
        refine X_if_ne (tgt := 62) (nx := 55) dX3_read_52 rfl rfl (fun h52 => ?_) (fun h52 => ?_)
        · skip
          obtain ⟨B2, hB2, hE2, hV2, hP2⟩ := g49.n1 h52
          rw [rdS_1 h40 hB2]
          refine X_iinc (nx := 65) dX3_read_62 rfl (by decide) rfl (by first | exact ii1 _ | rfl) rfl (st_s (st_s (st_s (st_0)))) ?_
          refine X_iload (nx := 67) dX3_read_65 rfl rfl ?_
          refine X_iconst (v := nI 1) (nx := 68) dX3_read_67 rfl rfl ?_
          refine X_iadd (nx := 69) dX3_read_68 rfl ?_
          refine X_top (nI_add _ _) ?_
          refine X_istore (i := 4) (nx := 71) dX3_read_69 rfl (by decide) rfl (st_s (st_s (st_s (st_s (st_0))))) ?_
          first
            | (refine X_iinc (nx := 74) dX3_read_71 rfl (by decide) rfl (ii1 _) rfl (st_s (st_s (st_s (st_s (st_s (st_0)))))) ?_
               refine X_goto (tgt := 23) dX3_read_74 rfl ?_
               exact ih (i + 1) st n B D (by omega) (by omega) hP hE hV hPB hz h0 (by omega) (fun k a b => by
                 by_cases e : k = i
                 · subst e; exact h40
                 · exact hn k a (by omega)))
            | (refine X_iinc (nx := 74) dX3_read_71 rfl (by decide) rfl (ii1 _) rfl (st_s (st_s (st_s (st_s (st_s (st_0)))))) ?_
               refine X_goto (tgt := 23) dX3_read_74 rfl ?_
               refine X.mono (ih (i + 1) (i + 1) (n + 1) B2 D49 (by omega) (by omega) (hP.fr (g49.1 96 (by unfold inB; omega)) (g49.1 97 (by unfold inB; omega))) hE2 hV2 hP2 g49.2.1 (qs_59 hk (by omega) h40) (Nat.le_refl _) (fun k a b => absurd a (by omega))) (fun vs σ' hq => ?_)
               obtain ⟨u, D', e1, e2, e3⟩ := hq
               exact ⟨u, D', e1, e2, e3.step g49.1⟩)
        · skip
          have hno := g49.n0 h52
          rw [rdS_0 h40 hno]
          refine X_sipush (v := -2000) (nx := 58) dX3_read_55 rfl rfl ?_
          refine X_iload (nx := 60) dX3_read_58 rfl rfl ?_
          refine X_isub (nx := 61) dX3_read_60 rfl ?_
          exact Z_reti dX3_read_61 (Or.inl rfl) ⟨g49.1, g49.2.1, rfl, m2000_neg st (by omega)⟩
def tbS (t : List Nat) (B : Bk) : Int32 × Option Bk := match ffp t with
  | some p => (-1000 - nI p, none)
  | none => rdS t 0 t.length 0 0 B
theorem tbS_f {t : List Nat} {B : Bk} {p : Nat} (h : ffp t = some p) : tbS t B = (-1000 - nI p, none) := by unfold tbS; rw [h]
theorem tbS_n {t : List Nat} {B : Bk} (h : ffp t = none) : tbS t B = rdS t 0 t.length 0 0 B := by unfold tbS; rw [h]
theorem opI_none {o : Option Nat} (h : opI o < 0) (hb : ∀ k, o = some k → k < 2147483648) : o = none := opI_lt h hb
theorem opI_some' {o : Option Nat} (h : ¬ opI o < 0) : ∃ k, o = some k := by
  cases o with
  | none => exact absurd (by decide) h
  | some k => exact ⟨k, rfl⟩
theorem sp_X3_read {t : List Nat} {B : Bk} {D : Mem} (hP : PIL D 96 t) (h256 : ∀ x ∈ t, x < 256) (hl : t.length < 200) (hE : Enc D 27 B) (hV : VB B) (hPB : PDB B) (hz : ZB D 27) : Rix 6 j_X3_read [.ref 96, .ref 27] D (fun u D' => RD D D' u (tbS t B)) := by
  refine E.start 4 (ls := [some (.ref 96), some (.ref 27), none, none, none, none]) (by decide +kernel) (Nat.le_of_ble_eq_true rfl) rfl (Nat.le_refl _) (Nat.le_refl _) ?_
  refine X_aload_n (nx := 1) dX3_read_0 rfl rfl rfl ?_
  refine Y_Si1 (nx := 4) dX3_read_1 rfl ml_RX3_9 kj_X3_placeOfFormFault ks_X3_placeOfFormFault (sp_X3_placeOfFormFault hP h256 hl) (by first | decide | omega) (by exact Nat.le_of_ble_eq_true rfl) ?_
  refine X_istore_n (i := 2) (nx := 5) dX3_read_4 rfl rfl (by decide) rfl (st_s (st_s (st_0))) ?_
  refine X_iload_n (nx := 6) dX3_read_5 rfl rfl rfl ?_
  refine X_if_lt (tgt := 15) (nx := 9) dX3_read_6 rfl rfl (fun h6 => ?_) (fun h6 => ?_)
  · skip
    have hno := opI_none h6 (fun k hk => by have := ffp_le hk; omega)
    rw [tbS_n hno]
    refine X_iconst (v := nI 0) (nx := 16) dX3_read_15 rfl rfl ?_
    refine X_istore_n (i := 3) (nx := 17) dX3_read_16 rfl rfl (by decide) rfl (st_s (st_s (st_s (st_0)))) ?_
    refine X_iconst (v := nI 0) (nx := 18) dX3_read_17 rfl rfl ?_
    refine X_istore (i := 4) (nx := 20) dX3_read_18 rfl (by decide) rfl (st_s (st_s (st_s (st_s (st_0))))) ?_
    refine X_iconst (v := nI 0) (nx := 21) dX3_read_20 rfl rfl ?_
    refine X_istore (i := 5) (nx := 23) dX3_read_21 rfl (by decide) rfl (st_s (st_s (st_s (st_s (st_s (st_0)))))) ?_
    exact lp_X3_read h256 hl (ffp_none hno) t.length 0 0 0 B D (Nat.zero_add _) (Nat.le_refl _) hP hE hV hPB hz rfl (Nat.le_refl _) (fun k a b => absurd b (Nat.not_lt_zero _))
  · skip
    obtain ⟨p, hp⟩ := opI_some' h6
    rw [tbS_f hp, hp]
    have hpl := ffp_le hp
    refine X_sipush (v := -1000) (nx := 12) dX3_read_9 rfl rfl ?_
    refine X_iload_n (nx := 13) dX3_read_12 rfl rfl rfl ?_
    refine X_isub (nx := 14) dX3_read_13 rfl ?_
    exact Z_reti dX3_read_14 (Or.inl rfl) ⟨Fr.rf, hz, rfl, m1000_neg p (by omega)⟩
def sT (S : St) : St := (bk S, kp S, im S, [], rw_ S, rf S)
def m_table (S : St) : Int32 × St := match (tbS (tl S) (bk S)).2 with
  | none => ((tbS (tl S) (bk S)).1, sT S)
  | some B => ((tbS (tl S) (bk S)).1, sB (sT S) B)
theorem inv_told0 {D : Mem} {S : St} {K F : Nat → Nat} (h : INVK D S K F) : INVK (up2 D 96 1 0) (sT S) K F := by
  obtain ⟨h1, ⟨s1, s2, s3, s4, s5, s6⟩, ht⟩ := h
  exact ⟨h1.fr (fun b q1 q2 => up2_ne (by omega)), ⟨(up2_other (by omega)).trans s1, ⟨Nat.zero_le _, up2_same, fun k hk => absurd hk (Nat.not_lt_zero _)⟩, s3.fr (up2_ne (by omega)) (up2_ne (by omega)), fun i q1 q2 => (up2_other (by omega)).trans (s4 i q1 q2), fun x hx => absurd hx (List.not_mem_nil), s6⟩, ht.fr (fun b q1 q2 => up2_ne (by omega)) (up2_other (by omega))⟩
theorem ivb_27 {D D' : Mem} {S : St} (h : IVb D S) (hf : Fr (inB 27) D D') (hz : ZB D' 27) : IVb D' S := by
  obtain ⟨h1, h2, h3, h4, h5, h6, h7⟩ := h
  exact ⟨h1.fr (fun x hx => hf x (by unfold inB at *; omega)), h2, fun q => ⟨(h3 q).1.fr (fun x hx => hf x (by unfold inB at *; omega)), (h3 q).2⟩, h4.fr (fun x hx => hf x (by unfold inB at *; omega)), hz, h6.fr (fun x hx => hf x (by unfold inB at *; omega)), h7⟩
theorem inv_27 {D D' : Mem} {S : St} (h : INV1 D S) (hf : Fr (inB 27) D D') (hz : ZB D' 27) : INV1 D' S :=
  ⟨ivb_27 h.1 hf hz, h.2.1.fr (hf 0 (by unfold inB; omega)) (fun b _ _ => hf b (by unfold inB; omega)) (hf 103 (by unfold inB; omega)), h.2.2.fr (fun b _ _ => hf b (by unfold inB; omega)) (by rw [hf 95 (by unfold inB; omega)])⟩
theorem ivb_new {D D' : Mem} {S : St} {B : Bk} (h : IVb D S) (hf : Fr (inB 1) D D') (he : Enc D' 1 B) (hz : ZB D' 1) (hV : VB B) (hPB : PDB B) : IVb D' (sB S B) := by
  obtain ⟨h1, h2, h3, h4, h5, h6, h7, h8⟩ := h
  exact ⟨he, hV, fun q => ⟨(h3 q).1.fr (fun x hx => hf x (by unfold inB at *; omega)), (h3 q).2⟩, hz, h5.fr (fun x hx => hf x (by unfold inB at *; omega)), h6.fr (fun x hx => hf x (by unfold inB at *; omega)), hPB, h8⟩
theorem RD.lt {D D' : Mem} {u : Int32} {r : Int32 × Option Bk} (h : RD D D' u r) (hu : u < 0) : r.2 = none := by
  cases hr : r.2 with
  | none => rfl
  | some B =>
    have := h.2.2.2
    rw [hr] at this
    exact absurd hu (Int32.not_lt.mpr this.1)
theorem RD.ge {D D' : Mem} {u : Int32} {r : Int32 × Option Bk} (h : RD D D' u r) (hu : ¬ u < 0) : ∃ B, r.2 = some B ∧ Enc D' 27 B ∧ VB B ∧ PDB B := by
  cases hr : r.2 with
  | none =>
    have := h.2.2.2
    rw [hr] at this
    exact absurd this hu
  | some B =>
    have := h.2.2.2
    rw [hr] at this
    exact ⟨B, rfl, this.2⟩
theorem m_tb_n {S : St} (h : (tbS (tl S) (bk S)).2 = none) : m_table S = ((tbS (tl S) (bk S)).1, sT S) := by unfold m_table; rw [h]
theorem m_tb_s {S : St} {B : Bk} (h : (tbS (tl S) (bk S)).2 = some B) : m_table S = ((tbS (tl S) (bk S)).1, sB (sT S) B) := by unfold m_table; rw [h]
theorem dX7_table_0 : decode cX7_table 0 = .ok (.aload_n 0, 1) := by decide +kernel
theorem dX7_table_1 : decode cX7_table 1 = .ok (.getfield 16, 3) := by decide +kernel
theorem dX7_table_4 : decode cX7_table 4 = .ok (.aload_n 0, 1) := by decide +kernel
theorem dX7_table_5 : decode cX7_table 5 = .ok (.getfield 10, 3) := by decide +kernel
theorem dX7_table_8 : decode cX7_table 8 = .ok (.invokevirtual 66, 3) := by decide +kernel
theorem dX7_table_11 : decode cX7_table 11 = .ok (.aload_n 0, 1) := by decide +kernel
theorem dX7_table_12 : decode cX7_table 12 = .ok (.getfield 34, 3) := by decide +kernel
theorem dX7_table_15 : decode cX7_table 15 = .ok (.aload_n 0, 1) := by decide +kernel
theorem dX7_table_16 : decode cX7_table 16 = .ok (.getfield 16, 3) := by decide +kernel
theorem dX7_table_19 : decode cX7_table 19 = .ok (.invokestatic 70, 3) := by decide +kernel
theorem dX7_table_22 : decode cX7_table 22 = .ok (.istore_n 1, 1) := by decide +kernel
theorem dX7_table_23 : decode cX7_table 23 = .ok (.iload_n 1, 1) := by decide +kernel
theorem dX7_table_24 : decode cX7_table 24 = .ok (.ifCond .lt 28, 3) := by decide +kernel
theorem dX7_table_27 : decode cX7_table 27 = .ok (.aload_n 0, 1) := by decide +kernel
theorem dX7_table_28 : decode cX7_table 28 = .ok (.getfield 10, 3) := by decide +kernel
theorem dX7_table_31 : decode cX7_table 31 = .ok (.aload_n 0, 1) := by decide +kernel
theorem dX7_table_32 : decode cX7_table 32 = .ok (.getfield 16, 3) := by decide +kernel
theorem dX7_table_35 : decode cX7_table 35 = .ok (.invokevirtual 66, 3) := by decide +kernel
theorem dX7_table_38 : decode cX7_table 38 = .ok (.aload_n 0, 1) := by decide +kernel
theorem dX7_table_39 : decode cX7_table 39 = .ok (.getfield 25, 3) := by decide +kernel
theorem dX7_table_42 : decode cX7_table 42 = .ok (.getfield 76, 3) := by decide +kernel
theorem dX7_table_45 : decode cX7_table 45 = .ok (.aload_n 0, 1) := by decide +kernel
theorem dX7_table_46 : decode cX7_table 46 = .ok (.getfield 10, 3) := by decide +kernel
theorem dX7_table_49 : decode cX7_table 49 = .ok (.invokevirtual 80, 3) := by decide +kernel
theorem dX7_table_52 : decode cX7_table 52 = .ok (.aload_n 0, 1) := by decide +kernel
theorem dX7_table_53 : decode cX7_table 53 = .ok (.getfield 34, 3) := by decide +kernel
theorem dX7_table_56 : decode cX7_table 56 = .ok (.iconst 0, 1) := by decide +kernel
theorem dX7_table_57 : decode cX7_table 57 = .ok (.putfield 62, 3) := by decide +kernel
theorem dX7_table_60 : decode cX7_table 60 = .ok (.iload_n 1, 1) := by decide +kernel
theorem dX7_table_61 : decode cX7_table 61 = .ok (.ireturn, 1) := by decide +kernel
theorem sp_X7_table {S : St} {D : Mem} (h : INV1 D S) : Rix 7 j_X7_table [.ref 0] D (fun u D' => CK D (m_table S) u D') := by
  refine E.start 1 (ls := [some (.ref 0), none]) (by decide +kernel) (Nat.le_of_ble_eq_true rfl) rfl (Nat.le_refl _) (Nat.le_refl _) ?_
  have h96 : (tl S).length ≤ 96 := by have := h.2.1.2.1.1; rw [show (lay (96 + 1)).2 = 96 from by decide] at this; exact this
  refine X_aload_n (nx := 1) dX7_table_0 rfl rfl rfl ?_
  refine M_getP (nx := 4) dX7_table_1 rfl fl_RX7_16 rfl (by first | assumption | rfl | decide | omega) (by first | assumption | rfl | decide | omega) (by first | assumption | rfl | decide | omega) ?_
  refine X_aload_n (nx := 5) dX7_table_4 rfl rfl rfl ?_
  refine M_getP (nx := 8) dX7_table_5 rfl fl_RX7_10 rfl (by first | assumption | rfl | decide | omega) (by first | assumption | rfl | decide | omega) (by first | assumption | rfl | decide | omega) ?_
  refine Z_Vv1 (nx := 11) dX7_table_8 rfl ml_RX7_66 kj_X0_copyFrom kv_X0_copyFrom (sp_X0_copyFrom (Or.inr (Or.inl rfl)) (Or.inl rfl) (by decide) h.1.1 h.1.2.2.2.1) (by first | assumption | rfl | decide | omega) (by first | assumption | rfl | decide | omega) (by decide) rfl (by first | decide | omega) (by exact Nat.le_of_ble_eq_true rfl) (fun D8 g8 => ?_)
  have h1 := inv_27 h g8.2.2 g8.2.1
  refine X_aload_n (nx := 12) dX7_table_11 rfl rfl rfl ?_
  refine M_getP (nx := 15) dX7_table_12 rfl fl_RX7_34 rfl (by first | assumption | rfl | decide | omega) (by first | assumption | rfl | decide | omega) (by first | assumption | rfl | decide | omega) ?_
  refine X_aload_n (nx := 16) dX7_table_15 rfl rfl rfl ?_
  refine M_getP (nx := 19) dX7_table_16 rfl fl_RX7_16 rfl (by first | assumption | rfl | decide | omega) (by first | assumption | rfl | decide | omega) (by first | assumption | rfl | decide | omega) ?_
  refine Z_Si2 (nx := 22) dX7_table_19 rfl ml_RX7_70 kj_X3_read ks_X3_read (sp_X3_read h1.2.1.2.1 h1.2.1.2.2.2.2.1 (by omega) g8.1 h.1.2.1 h.1.2.2.2.2.2.2.1 g8.2.1) (by first | decide | omega) (by exact Nat.le_of_ble_eq_true rfl) (fun u19 D19 g19 => ?_)
  have h2 := inv_27 h1 g19.1 g19.2.1
  refine X_istore_n (i := 1) (nx := 23) dX7_table_22 rfl rfl (by decide) rfl (st_s (st_0)) ?_
  refine X_iload_n (nx := 24) dX7_table_23 rfl rfl rfl ?_
  refine X_if_lt (tgt := 52) (nx := 27) dX7_table_24 rfl rfl (fun h24 => ?_) (fun h24 => ?_)
  · skip
    have hno := g19.lt h24
    refine X_aload_n (nx := 53) dX7_table_52 rfl rfl rfl ?_
    refine M_getP (nx := 56) dX7_table_53 rfl fl_RX7_34 rfl (by first | assumption | rfl | decide | omega) (by first | assumption | rfl | decide | omega) (by first | assumption | rfl | decide | omega) ?_
    refine X_iconst (v := 0) (nx := 57) dX7_table_56 rfl rfl ?_
    refine M_putI (nx := 60) dX7_table_57 rfl fl_RX7_62 rfl rfl (by first | assumption | rfl | decide | omega) (by first | assumption | rfl | decide | omega) ?_
    refine X_iload_n (nx := 61) dX7_table_60 rfl rfl rfl ?_
    exact Z_reti dX7_table_61 (Or.inl rfl) (by
      have hf2 : Fr inC D D19 := (g8.2.2.mono (fun b hb => by unfold inB at hb; unfold inC; omega)).tr (g19.1.mono (fun b hb => by unfold inB at hb; unfold inC; omega))
      first
      | (rw [m_tb_n hno]
         exact ⟨g19.2.2.1, inv_told0 h2, hf2.tr (Fr.up (by unfold inC; omega))⟩)
      | (rw [m_tb_s hB2]
         have h3 : INV1 D49 (sB S B2) := inv_grow (S := sB S B2) (ivb_new h2.1 g35.2.2 g35.1 g35.2.1 hV2 hP2) (h2.2.1.fr (g35.2.2 0 (by unfold inB; omega)) (fun b _ _ => g35.2.2 b (by unfold inB; omega)) (g35.2.2 103 (by unfold inB; omega))) (by rw [g35.2.2 95 (by unfold inB; omega)]; exact h2.2.2.2.2.2) g49
         exact ⟨g19.2.2.1, inv_told0 h3, ((hf2.tr (g35.2.2.mono (fun b hb => by unfold inB at hb; unfold inC; omega))).tr (g49.2.mono (fun b hb => by unfold inT2 at hb; unfold inC; omega))).tr (Fr.up (by unfold inC; omega))⟩))
  · skip
    obtain ⟨B2, hB2, hE2, hV2, hP2⟩ := g19.ge h24
    refine X_aload_n (nx := 28) dX7_table_27 rfl rfl rfl ?_
    refine M_getP (nx := 31) dX7_table_28 rfl fl_RX7_10 rfl (by first | assumption | rfl | decide | omega) (by first | assumption | rfl | decide | omega) (by first | assumption | rfl | decide | omega) ?_
    refine X_aload_n (nx := 32) dX7_table_31 rfl rfl rfl ?_
    refine M_getP (nx := 35) dX7_table_32 rfl fl_RX7_16 rfl (by first | assumption | rfl | decide | omega) (by first | assumption | rfl | decide | omega) (by first | assumption | rfl | decide | omega) ?_
    refine Z_Vv1 (nx := 38) dX7_table_35 rfl ml_RX7_66 kj_X0_copyFrom kv_X0_copyFrom (sp_X0_copyFrom (Or.inl rfl) (Or.inr (Or.inl rfl)) (by decide) hE2 g19.2.1) (by first | assumption | rfl | decide | omega) (by first | assumption | rfl | decide | omega) (by decide) rfl (by first | decide | omega) (by exact Nat.le_of_ble_eq_true rfl) (fun D35 g35 => ?_)
    refine X_aload_n (nx := 39) dX7_table_38 rfl rfl rfl ?_
    refine M_getP (nx := 42) dX7_table_39 rfl fl_RX7_25 rfl (by first | assumption | rfl | decide | omega) (by first | assumption | rfl | decide | omega) (by first | assumption | rfl | decide | omega) ?_
    refine M_getP (nx := 45) dX7_table_42 rfl fl_RX7_76 rfl (by first | assumption | rfl | decide | omega) (by first | assumption | rfl | decide | omega) (by first | assumption | rfl | decide | omega) ?_
    refine X_aload_n (nx := 46) dX7_table_45 rfl rfl rfl ?_
    refine M_getP (nx := 49) dX7_table_46 rfl fl_RX7_10 rfl (by first | assumption | rfl | decide | omega) (by first | assumption | rfl | decide | omega) (by first | assumption | rfl | decide | omega) ?_
    refine Z_Vv1 (nx := 52) dX7_table_49 rfl ml_RX7_80 kj_X5_grow kv_X5_grow (sp_X5_grow g35.1 hV2) (by first | assumption | rfl | decide | omega) (by first | assumption | rfl | decide | omega) (by decide) rfl (by first | decide | omega) (by exact Nat.le_of_ble_eq_true rfl) (fun D49 g49 => ?_)
    refine X_aload_n (nx := 53) dX7_table_52 rfl rfl rfl ?_
    refine M_getP (nx := 56) dX7_table_53 rfl fl_RX7_34 rfl (by first | assumption | rfl | decide | omega) (by first | assumption | rfl | decide | omega) (by first | assumption | rfl | decide | omega) ?_
    refine X_iconst (v := 0) (nx := 57) dX7_table_56 rfl rfl ?_
    refine M_putI (nx := 60) dX7_table_57 rfl fl_RX7_62 rfl rfl (by first | assumption | rfl | decide | omega) (by first | assumption | rfl | decide | omega) ?_
    refine X_iload_n (nx := 61) dX7_table_60 rfl rfl rfl ?_
    exact Z_reti dX7_table_61 (Or.inl rfl) (by
      have hf2 : Fr inC D D19 := (g8.2.2.mono (fun b hb => by unfold inB at hb; unfold inC; omega)).tr (g19.1.mono (fun b hb => by unfold inB at hb; unfold inC; omega))
      first
      | (rw [m_tb_n hno]
         exact ⟨g19.2.2.1, inv_told0 h2, hf2.tr (Fr.up (by unfold inC; omega))⟩)
      | (rw [m_tb_s hB2]
         have h3 : INV1 D49 (sB S B2) := inv_grow (S := sB S B2) (ivb_new h2.1 g35.2.2 g35.1 g35.2.1 hV2 hP2) (h2.2.1.fr (g35.2.2 0 (by unfold inB; omega)) (fun b _ _ => g35.2.2 b (by unfold inB; omega)) (g35.2.2 103 (by unfold inB; omega))) (by rw [g35.2.2 95 (by unfold inB; omega)]; exact h2.2.2.2.2.2) g49
         exact ⟨g19.2.2.1, inv_told0 h3, ((hf2.tr (g35.2.2.mono (fun b hb => by unfold inB at hb; unfold inC; omega))).tr (g49.2.mono (fun b hb => by unfold inT2 at hb; unfold inC; omega))).tr (Fr.up (by unfold inC; omega))⟩))
