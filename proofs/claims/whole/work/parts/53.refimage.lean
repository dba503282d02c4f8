/-! THE REFERENCE: image and on -/
def KPS (o b i : Nat) : Prop := (b = 104 ∧ (i = 40 ∨ i = 41)) ∨ (b = 132 ∧ o ≤ i ∧ i ≤ o + 96)
def RSS (b i : Nat) : Prop := BKS b i ∨ (b = 104 ∧ (i = 40 ∨ i = 41))
theorem RS.both {D D' : Mem} {S : St} (h : RS D S) (hw : WF S) (hf : Fq (fun b i => BKS b i ∨ SCR b i) D D') : RS D' S := by
  obtain ⟨a1, a2, a3, a4, a5, a6, a7⟩ := h
  refine ⟨by rw [hf 104 39 (by unfold SCR BKS; omega)]; exact a1, by rw [hf 104 33 (by unfold SCR BKS; omega)]; exact a2, fun k hk => by rw [hf 125 k (by unfold SCR BKS; omega)]; exact a3 k hk, by rw [hf 104 50 (by unfold SCR BKS; omega)]; exact a4, fun k hk => by rw [hf 137 k (by unfold SCR BKS; omega)]; exact a5 k hk, fun i h1 h2 => by rw [hf 105 i (by unfold SCR BKS; omega)]; exact a6 i h1 h2, fun q => (a7 q).fq (hw.2.2.1 q).1 (fun i h1 h2 => hf 132 i (by unfold SCR BKS; omega))⟩
theorem keep_all {B : Bk} {o : Nat} {D D0 D1 D2 D3 D4 D5 D6 D7 D8 : Mem} (hV : VB B) (h : RB D B (th_ B) (kd_ B) (fg_ B)) (h0 : Fq (fun b i => b = 104 ∧ (i = 40 ∨ i = 41)) D D0) (g1 : PK 106 3 (o) D0 D1) (g2 : PK 107 3 (o + 3) D1 D2) (g3 : PK 108 10 (o + 6) D2 D3) (g4 : PK 109 10 (o + 16) D3 D4) (g5 : PK 110 10 (o + 26) D4 D5) (g6 : PK 111 10 (o + 36) D5 D6) (g7 : PK 112 10 (o + 46) D6 D7) (g8 : PK 113 40 (o + 56) D7 D8) : KB (up2 D8 132 (o + 96) (D8 104 9)) o B ∧ Fq (KPS o) D (up2 D8 132 (o + 96) (D8 104 9)) := by
  have f0 : Fq (KPS o) D D0 := h0.mono (fun b i q => by unfold KPS; omega)
  have f1 : Fq (KPS o) D D1 := f0.tr (g1.2.1.mono (fun b i q => by unfold KPS; omega))
  have f2 : Fq (KPS o) D D2 := f1.tr (g2.2.1.mono (fun b i q => by unfold KPS; omega))
  have f3 : Fq (KPS o) D D3 := f2.tr (g3.2.1.mono (fun b i q => by unfold KPS; omega))
  have f4 : Fq (KPS o) D D4 := f3.tr (g4.2.1.mono (fun b i q => by unfold KPS; omega))
  have f5 : Fq (KPS o) D D5 := f4.tr (g5.2.1.mono (fun b i q => by unfold KPS; omega))
  have f6 : Fq (KPS o) D D6 := f5.tr (g6.2.1.mono (fun b i q => by unfold KPS; omega))
  have f7 : Fq (KPS o) D D7 := f6.tr (g7.2.1.mono (fun b i q => by unfold KPS; omega))
  have f8 : Fq (KPS o) D D8 := f7.tr (g8.2.1.mono (fun b i q => by unfold KPS; omega))
  have v1 : ∀ k, k < 3 → D8 132 (o + k) = D 106 k := fun k hk => by
    rw [g8.2.1 132 (o + k) (by omega), g7.2.1 132 (o + k) (by omega), g6.2.1 132 (o + k) (by omega), g5.2.1 132 (o + k) (by omega), g4.2.1 132 (o + k) (by omega), g3.2.1 132 (o + k) (by omega), g2.2.1 132 (o + k) (by omega), g1.1 k hk]
    exact f0 106 k (by unfold KPS; omega)
  have v2 : ∀ k, k < 3 → D8 132 (o + 3 + k) = D 107 k := fun k hk => by
    rw [g8.2.1 132 (o + 3 + k) (by omega), g7.2.1 132 (o + 3 + k) (by omega), g6.2.1 132 (o + 3 + k) (by omega), g5.2.1 132 (o + 3 + k) (by omega), g4.2.1 132 (o + 3 + k) (by omega), g3.2.1 132 (o + 3 + k) (by omega), g2.1 k hk]
    exact f1 107 k (by unfold KPS; omega)
  have v3 : ∀ k, k < 10 → D8 132 (o + 6 + k) = D 108 k := fun k hk => by
    rw [g8.2.1 132 (o + 6 + k) (by omega), g7.2.1 132 (o + 6 + k) (by omega), g6.2.1 132 (o + 6 + k) (by omega), g5.2.1 132 (o + 6 + k) (by omega), g4.2.1 132 (o + 6 + k) (by omega), g3.1 k hk]
    exact f2 108 k (by unfold KPS; omega)
  have v4 : ∀ k, k < 10 → D8 132 (o + 16 + k) = D 109 k := fun k hk => by
    rw [g8.2.1 132 (o + 16 + k) (by omega), g7.2.1 132 (o + 16 + k) (by omega), g6.2.1 132 (o + 16 + k) (by omega), g5.2.1 132 (o + 16 + k) (by omega), g4.1 k hk]
    exact f3 109 k (by unfold KPS; omega)
  have v5 : ∀ k, k < 10 → D8 132 (o + 26 + k) = D 110 k := fun k hk => by
    rw [g8.2.1 132 (o + 26 + k) (by omega), g7.2.1 132 (o + 26 + k) (by omega), g6.2.1 132 (o + 26 + k) (by omega), g5.1 k hk]
    exact f4 110 k (by unfold KPS; omega)
  have v6 : ∀ k, k < 10 → D8 132 (o + 36 + k) = D 111 k := fun k hk => by
    rw [g8.2.1 132 (o + 36 + k) (by omega), g7.2.1 132 (o + 36 + k) (by omega), g6.1 k hk]
    exact f5 111 k (by unfold KPS; omega)
  have v7 : ∀ k, k < 10 → D8 132 (o + 46 + k) = D 112 k := fun k hk => by
    rw [g8.2.1 132 (o + 46 + k) (by omega), g7.1 k hk]
    exact f6 112 k (by unfold KPS; omega)
  have v8 : ∀ k, k < 40 → D8 132 (o + 56 + k) = D 113 k := fun k hk => by
    rw [g8.1 k hk]
    exact f7 113 k (by unfold KPS; omega)
  refine ⟨?_, f8.tr (Fq.up (by unfold KPS; omega))⟩
  refine EF.congr h hV (fun i hi => ⟨?_, ?_⟩) ?_ (fun i hi => ⟨?_, ?_, ?_, ?_, ?_⟩) (fun i hi => ?_)
  · show up2 D8 132 (o + 96) (D8 104 9) 132 (o + i) = _; rw [up2_other (by omega)]; exact v1 i hi
  · show up2 D8 132 (o + 96) (D8 104 9) 132 (o + 3 + i) = _; rw [up2_other (by omega)]; exact v2 i hi
  · rw [up2_same]; exact f8 104 9 (by unfold KPS; omega)
  · show up2 D8 132 (o + 96) (D8 104 9) 132 (o + 6 + i) = _; rw [up2_other (by omega)]; exact v3 i hi
  · show up2 D8 132 (o + 96) (D8 104 9) 132 (o + 16 + i) = _; rw [up2_other (by omega)]; exact v4 i hi
  · show up2 D8 132 (o + 96) (D8 104 9) 132 (o + 26 + i) = _; rw [up2_other (by omega)]; exact v5 i hi
  · show up2 D8 132 (o + 96) (D8 104 9) 132 (o + 36 + i) = _; rw [up2_other (by omega)]; exact v6 i hi
  · show up2 D8 132 (o + 96) (D8 104 9) 132 (o + 46 + i) = _; rw [up2_other (by omega)]; exact v7 i hi
  · show up2 D8 132 (o + 96) (D8 104 9) 132 (o + 56 + i) = _; rw [up2_other (by omega)]; exact v8 i hi
theorem rest_all {B : Bk} {o : Nat} {D D0 D1 D2 D3 D4 D5 D6 D7 D8 : Mem} (hV : VB B) (h : KB D o B) (h0 : Fq (fun b i => b = 104 ∧ (i = 40 ∨ i = 41)) D D0) (g1 : PR 106 3 (o) D0 D1) (g2 : PR 107 3 (o + 3) D1 D2) (g3 : PR 108 10 (o + 6) D2 D3) (g4 : PR 109 10 (o + 16) D3 D4) (g5 : PR 110 10 (o + 26) D4 D5) (g6 : PR 111 10 (o + 36) D5 D6) (g7 : PR 112 10 (o + 46) D6 D7) (g8 : PR 113 40 (o + 56) D7 D8) : RB (up2 D8 104 9 (D8 132 (o + 96))) B (th_ B) (kd_ B) (fg_ B) ∧ Fq RSS D (up2 D8 104 9 (D8 132 (o + 96))) := by
  have f0 : Fq RSS D D0 := h0.mono (fun b i q => by unfold RSS; omega)
  have f1 : Fq RSS D D1 := f0.tr (g1.2.1.mono (fun b i q => by unfold RSS BKS; omega))
  have f2 : Fq RSS D D2 := f1.tr (g2.2.1.mono (fun b i q => by unfold RSS BKS; omega))
  have f3 : Fq RSS D D3 := f2.tr (g3.2.1.mono (fun b i q => by unfold RSS BKS; omega))
  have f4 : Fq RSS D D4 := f3.tr (g4.2.1.mono (fun b i q => by unfold RSS BKS; omega))
  have f5 : Fq RSS D D5 := f4.tr (g5.2.1.mono (fun b i q => by unfold RSS BKS; omega))
  have f6 : Fq RSS D D6 := f5.tr (g6.2.1.mono (fun b i q => by unfold RSS BKS; omega))
  have f7 : Fq RSS D D7 := f6.tr (g7.2.1.mono (fun b i q => by unfold RSS BKS; omega))
  have f8 : Fq RSS D D8 := f7.tr (g8.2.1.mono (fun b i q => by unfold RSS BKS; omega))
  have v1 : ∀ k, k < 3 → D8 106 k = D 132 (o + k) := fun k hk => by
    rw [g8.2.1 106 k (by omega), g7.2.1 106 k (by omega), g6.2.1 106 k (by omega), g5.2.1 106 k (by omega), g4.2.1 106 k (by omega), g3.2.1 106 k (by omega), g2.2.1 106 k (by omega), g1.1 k hk]
    exact f0 132 _ (by unfold RSS BKS; omega)
  have v2 : ∀ k, k < 3 → D8 107 k = D 132 (o + 3 + k) := fun k hk => by
    rw [g8.2.1 107 k (by omega), g7.2.1 107 k (by omega), g6.2.1 107 k (by omega), g5.2.1 107 k (by omega), g4.2.1 107 k (by omega), g3.2.1 107 k (by omega), g2.1 k hk]
    exact f1 132 _ (by unfold RSS BKS; omega)
  have v3 : ∀ k, k < 10 → D8 108 k = D 132 (o + 6 + k) := fun k hk => by
    rw [g8.2.1 108 k (by omega), g7.2.1 108 k (by omega), g6.2.1 108 k (by omega), g5.2.1 108 k (by omega), g4.2.1 108 k (by omega), g3.1 k hk]
    exact f2 132 _ (by unfold RSS BKS; omega)
  have v4 : ∀ k, k < 10 → D8 109 k = D 132 (o + 16 + k) := fun k hk => by
    rw [g8.2.1 109 k (by omega), g7.2.1 109 k (by omega), g6.2.1 109 k (by omega), g5.2.1 109 k (by omega), g4.1 k hk]
    exact f3 132 _ (by unfold RSS BKS; omega)
  have v5 : ∀ k, k < 10 → D8 110 k = D 132 (o + 26 + k) := fun k hk => by
    rw [g8.2.1 110 k (by omega), g7.2.1 110 k (by omega), g6.2.1 110 k (by omega), g5.1 k hk]
    exact f4 132 _ (by unfold RSS BKS; omega)
  have v6 : ∀ k, k < 10 → D8 111 k = D 132 (o + 36 + k) := fun k hk => by
    rw [g8.2.1 111 k (by omega), g7.2.1 111 k (by omega), g6.1 k hk]
    exact f5 132 _ (by unfold RSS BKS; omega)
  have v7 : ∀ k, k < 10 → D8 112 k = D 132 (o + 46 + k) := fun k hk => by
    rw [g8.2.1 112 k (by omega), g7.1 k hk]
    exact f6 132 _ (by unfold RSS BKS; omega)
  have v8 : ∀ k, k < 40 → D8 113 k = D 132 (o + 56 + k) := fun k hk => by
    rw [g8.1 k hk]
    exact f7 132 _ (by unfold RSS BKS; omega)
  refine ⟨?_, f8.tr (Fq.up (by unfold RSS BKS; omega))⟩
  refine EF.congr h hV (fun i hi => ⟨?_, ?_⟩) ?_ (fun i hi => ⟨?_, ?_, ?_, ?_, ?_⟩) (fun i hi => ?_)
  · rw [up2_other (by omega)]; exact v1 i hi
  · rw [up2_other (by omega)]; exact v2 i hi
  · rw [up2_same]; exact f8 132 _ (by unfold RSS BKS; omega)
  · rw [up2_other (by omega)]; exact v3 i hi
  · rw [up2_other (by omega)]; exact v4 i hi
  · rw [up2_other (by omega)]; exact v5 i hi
  · rw [up2_other (by omega)]; exact v6 i hi
  · rw [up2_other (by omega)]; exact v7 i hi
  · rw [up2_other (by omega)]; exact v8 i hi
theorem dX8_passesAll_0 : decode cX8_passesAll 0 = .ok (.aload_n 0, 1) := by decide +kernel
theorem dX8_passesAll_1 : decode cX8_passesAll 1 = .ok (.bipush 98, 2) := by decide +kernel
theorem dX8_passesAll_3 : decode cX8_passesAll 3 = .ok (.iload_n 1, 1) := by decide +kernel
theorem dX8_passesAll_4 : decode cX8_passesAll 4 = .ok (.imul, 1) := by decide +kernel
theorem dX8_passesAll_5 : decode cX8_passesAll 5 = .ok (.putfield 280, 3) := by decide +kernel
theorem dX8_passesAll_8 : decode cX8_passesAll 8 = .ok (.aload_n 0, 1) := by decide +kernel
theorem dX8_passesAll_9 : decode cX8_passesAll 9 = .ok (.iload_n 2, 1) := by decide +kernel
theorem dX8_passesAll_10 : decode cX8_passesAll 10 = .ok (.putfield 276, 3) := by decide +kernel
theorem dX8_passesAll_13 : decode cX8_passesAll 13 = .ok (.aload_n 0, 1) := by decide +kernel
theorem dX8_passesAll_14 : decode cX8_passesAll 14 = .ok (.aload_n 0, 1) := by decide +kernel
theorem dX8_passesAll_15 : decode cX8_passesAll 15 = .ok (.getfield 13, 3) := by decide +kernel
theorem dX8_passesAll_18 : decode cX8_passesAll 18 = .ok (.invokevirtual 283, 3) := by decide +kernel
theorem dX8_passesAll_21 : decode cX8_passesAll 21 = .ok (.aload_n 0, 1) := by decide +kernel
theorem dX8_passesAll_22 : decode cX8_passesAll 22 = .ok (.aload_n 0, 1) := by decide +kernel
theorem dX8_passesAll_23 : decode cX8_passesAll 23 = .ok (.getfield 16, 3) := by decide +kernel
theorem dX8_passesAll_26 : decode cX8_passesAll 26 = .ok (.invokevirtual 283, 3) := by decide +kernel
theorem dX8_passesAll_29 : decode cX8_passesAll 29 = .ok (.aload_n 0, 1) := by decide +kernel
theorem dX8_passesAll_30 : decode cX8_passesAll 30 = .ok (.aload_n 0, 1) := by decide +kernel
theorem dX8_passesAll_31 : decode cX8_passesAll 31 = .ok (.getfield 19, 3) := by decide +kernel
theorem dX8_passesAll_34 : decode cX8_passesAll 34 = .ok (.invokevirtual 283, 3) := by decide +kernel
theorem dX8_passesAll_37 : decode cX8_passesAll 37 = .ok (.aload_n 0, 1) := by decide +kernel
theorem dX8_passesAll_38 : decode cX8_passesAll 38 = .ok (.aload_n 0, 1) := by decide +kernel
theorem dX8_passesAll_39 : decode cX8_passesAll 39 = .ok (.getfield 22, 3) := by decide +kernel
theorem dX8_passesAll_42 : decode cX8_passesAll 42 = .ok (.invokevirtual 283, 3) := by decide +kernel
theorem dX8_passesAll_45 : decode cX8_passesAll 45 = .ok (.aload_n 0, 1) := by decide +kernel
theorem dX8_passesAll_46 : decode cX8_passesAll 46 = .ok (.aload_n 0, 1) := by decide +kernel
theorem dX8_passesAll_47 : decode cX8_passesAll 47 = .ok (.getfield 25, 3) := by decide +kernel
theorem dX8_passesAll_50 : decode cX8_passesAll 50 = .ok (.invokevirtual 283, 3) := by decide +kernel
theorem dX8_passesAll_53 : decode cX8_passesAll 53 = .ok (.aload_n 0, 1) := by decide +kernel
theorem dX8_passesAll_54 : decode cX8_passesAll 54 = .ok (.aload_n 0, 1) := by decide +kernel
theorem dX8_passesAll_55 : decode cX8_passesAll 55 = .ok (.getfield 28, 3) := by decide +kernel
theorem dX8_passesAll_58 : decode cX8_passesAll 58 = .ok (.invokevirtual 283, 3) := by decide +kernel
theorem dX8_passesAll_61 : decode cX8_passesAll 61 = .ok (.aload_n 0, 1) := by decide +kernel
theorem dX8_passesAll_62 : decode cX8_passesAll 62 = .ok (.aload_n 0, 1) := by decide +kernel
theorem dX8_passesAll_63 : decode cX8_passesAll 63 = .ok (.getfield 31, 3) := by decide +kernel
theorem dX8_passesAll_66 : decode cX8_passesAll 66 = .ok (.invokevirtual 283, 3) := by decide +kernel
theorem dX8_passesAll_69 : decode cX8_passesAll 69 = .ok (.aload_n 0, 1) := by decide +kernel
theorem dX8_passesAll_70 : decode cX8_passesAll 70 = .ok (.aload_n 0, 1) := by decide +kernel
theorem dX8_passesAll_71 : decode cX8_passesAll 71 = .ok (.getfield 34, 3) := by decide +kernel
theorem dX8_passesAll_74 : decode cX8_passesAll 74 = .ok (.invokevirtual 283, 3) := by decide +kernel
theorem dX8_passesAll_77 : decode cX8_passesAll 77 = .ok (.iload_n 2, 1) := by decide +kernel
theorem dX8_passesAll_78 : decode cX8_passesAll 78 = .ok (.ifCond .eq 19, 3) := by decide +kernel
theorem dX8_passesAll_81 : decode cX8_passesAll 81 = .ok (.aload_n 0, 1) := by decide +kernel
theorem dX8_passesAll_82 : decode cX8_passesAll 82 = .ok (.getfield 91, 3) := by decide +kernel
theorem dX8_passesAll_85 : decode cX8_passesAll 85 = .ok (.aload_n 0, 1) := by decide +kernel
theorem dX8_passesAll_86 : decode cX8_passesAll 86 = .ok (.getfield 280, 3) := by decide +kernel
theorem dX8_passesAll_89 : decode cX8_passesAll 89 = .ok (.aload_n 0, 1) := by decide +kernel
theorem dX8_passesAll_90 : decode cX8_passesAll 90 = .ok (.getfield 109, 3) := by decide +kernel
theorem dX8_passesAll_93 : decode cX8_passesAll 93 = .ok (.iastore, 1) := by decide +kernel
theorem dX8_passesAll_94 : decode cX8_passesAll 94 = .ok (.goto 16, 3) := by decide +kernel
theorem dX8_passesAll_97 : decode cX8_passesAll 97 = .ok (.aload_n 0, 1) := by decide +kernel
theorem dX8_passesAll_98 : decode cX8_passesAll 98 = .ok (.aload_n 0, 1) := by decide +kernel
theorem dX8_passesAll_99 : decode cX8_passesAll 99 = .ok (.getfield 91, 3) := by decide +kernel
theorem dX8_passesAll_102 : decode cX8_passesAll 102 = .ok (.aload_n 0, 1) := by decide +kernel
theorem dX8_passesAll_103 : decode cX8_passesAll 103 = .ok (.getfield 280, 3) := by decide +kernel
theorem dX8_passesAll_106 : decode cX8_passesAll 106 = .ok (.iaload, 1) := by decide +kernel
theorem dX8_passesAll_107 : decode cX8_passesAll 107 = .ok (.putfield 109, 3) := by decide +kernel
theorem dX8_passesAll_110 : decode cX8_passesAll 110 = .ok (.return_, 1) := by decide +kernel
theorem sp_keepAll {B : Bk} {w o : Nat} {x : Int32} {D : Mem} (hV : VB B) (h : RB D B (th_ B) (kd_ B) (fg_ B)) (hx : x = nI w) (ho : o = 98 * w) (hw : o ≤ 98) : Rvx 2 j_X8_passesAll [.ref 104, .int x, .int 1] D (fun D' => KB D' o B ∧ Fq (KPS o) D D') := by
  refine E.start 0 (ls := [some (.ref 104), some (.int x), some (.int 1)]) (by decide +kernel) (Nat.le_of_ble_eq_true rfl) rfl (Nat.le_refl _) (Nat.le_refl _) ?_
  subst hx
  refine X_aload_n (nx := 1) dX8_passesAll_0 rfl rfl rfl ?_
  refine X_bipush (v := nI 98) (nx := 3) dX8_passesAll_1 rfl rfl ?_
  refine X_iload_n (nx := 4) dX8_passesAll_3 rfl rfl rfl ?_
  refine X_imul (nx := 5) dX8_passesAll_4 rfl ?_
  refine X_top (show _ = nI o from (by rw [ho]; exact mul_nI)) ?_
  refine M_putI (nx := 8) dX8_passesAll_5 rfl fl_RX8_280 rfl rfl (by first | assumption | rfl | decide | omega) (by first | assumption | rfl | decide | omega) ?_
  refine X_aload_n (nx := 9) dX8_passesAll_8 rfl rfl rfl ?_
  refine X_iload_n (nx := 10) dX8_passesAll_9 rfl rfl rfl ?_
  refine M_putZ (nx := 13) dX8_passesAll_10 rfl fl_RX8_276 rfl rfl (Or.inr rfl) (by first | assumption | rfl | decide | omega) (by first | assumption | rfl | decide | omega) ?_
  have a40 : up2 (up2 D 104 41 (nI o)) 104 40 1 104 40 = 1 := up2_same
  have a41 : up2 (up2 D 104 41 (nI o)) 104 40 1 104 41 = nI o := (up2_other (by omega)).trans up2_same
  refine X_aload_n (nx := 14) dX8_passesAll_13 rfl rfl rfl ?_
  refine X_aload_n (nx := 15) dX8_passesAll_14 rfl rfl rfl ?_
  refine M_getP (nx := 18) dX8_passesAll_15 rfl fl_RX8_13 rfl (by first | assumption | rfl | decide | omega) (by first | assumption | rfl | decide | omega) (by first | assumption | rfl | decide | omega) ?_
  refine Z_Vv1 (nx := 21) dX8_passesAll_18 rfl ml_RX8_283 kj_X8_passes kv_X8_passes (sp_passes_k (a := 106) (L := 3) (c := o) (by omega) (by decide) (by decide) (by omega) a40 a41) (by first | assumption | rfl | decide | omega) (by first | assumption | rfl | decide | omega) (by decide) rfl (by first | decide | omega) (by exact Nat.le_of_ble_eq_true rfl) (fun D18 g18 => ?_)
  have b18 : D18 104 40 = 1 := (g18.2.1 104 40 (by omega)).trans a40
  have c18 : D18 104 41 = nI (o + 3) := g18.2.2.trans (congrArg nI (by omega))
  refine X_aload_n (nx := 22) dX8_passesAll_21 rfl rfl rfl ?_
  refine X_aload_n (nx := 23) dX8_passesAll_22 rfl rfl rfl ?_
  refine M_getP (nx := 26) dX8_passesAll_23 rfl fl_RX8_16 rfl (by first | assumption | rfl | decide | omega) (by first | assumption | rfl | decide | omega) (by first | assumption | rfl | decide | omega) ?_
  refine Z_Vv1 (nx := 29) dX8_passesAll_26 rfl ml_RX8_283 kj_X8_passes kv_X8_passes (sp_passes_k (a := 107) (L := 3) (c := o + 3) (by omega) (by decide) (by decide) (by omega) b18 c18) (by first | assumption | rfl | decide | omega) (by first | assumption | rfl | decide | omega) (by decide) rfl (by first | decide | omega) (by exact Nat.le_of_ble_eq_true rfl) (fun D26 g26 => ?_)
  have b26 : D26 104 40 = 1 := (g26.2.1 104 40 (by omega)).trans b18
  have c26 : D26 104 41 = nI (o + 6) := g26.2.2.trans (congrArg nI (by omega))
  refine X_aload_n (nx := 30) dX8_passesAll_29 rfl rfl rfl ?_
  refine X_aload_n (nx := 31) dX8_passesAll_30 rfl rfl rfl ?_
  refine M_getP (nx := 34) dX8_passesAll_31 rfl fl_RX8_19 rfl (by first | assumption | rfl | decide | omega) (by first | assumption | rfl | decide | omega) (by first | assumption | rfl | decide | omega) ?_
  refine Z_Vv1 (nx := 37) dX8_passesAll_34 rfl ml_RX8_283 kj_X8_passes kv_X8_passes (sp_passes_k (a := 108) (L := 10) (c := o + 6) (by omega) (by decide) (by decide) (by omega) b26 c26) (by first | assumption | rfl | decide | omega) (by first | assumption | rfl | decide | omega) (by decide) rfl (by first | decide | omega) (by exact Nat.le_of_ble_eq_true rfl) (fun D34 g34 => ?_)
  have b34 : D34 104 40 = 1 := (g34.2.1 104 40 (by omega)).trans b26
  have c34 : D34 104 41 = nI (o + 16) := g34.2.2.trans (congrArg nI (by omega))
  refine X_aload_n (nx := 38) dX8_passesAll_37 rfl rfl rfl ?_
  refine X_aload_n (nx := 39) dX8_passesAll_38 rfl rfl rfl ?_
  refine M_getP (nx := 42) dX8_passesAll_39 rfl fl_RX8_22 rfl (by first | assumption | rfl | decide | omega) (by first | assumption | rfl | decide | omega) (by first | assumption | rfl | decide | omega) ?_
  refine Z_Vv1 (nx := 45) dX8_passesAll_42 rfl ml_RX8_283 kj_X8_passes kv_X8_passes (sp_passes_k (a := 109) (L := 10) (c := o + 16) (by omega) (by decide) (by decide) (by omega) b34 c34) (by first | assumption | rfl | decide | omega) (by first | assumption | rfl | decide | omega) (by decide) rfl (by first | decide | omega) (by exact Nat.le_of_ble_eq_true rfl) (fun D42 g42 => ?_)
  have b42 : D42 104 40 = 1 := (g42.2.1 104 40 (by omega)).trans b34
  have c42 : D42 104 41 = nI (o + 26) := g42.2.2.trans (congrArg nI (by omega))
  refine X_aload_n (nx := 46) dX8_passesAll_45 rfl rfl rfl ?_
  refine X_aload_n (nx := 47) dX8_passesAll_46 rfl rfl rfl ?_
  refine M_getP (nx := 50) dX8_passesAll_47 rfl fl_RX8_25 rfl (by first | assumption | rfl | decide | omega) (by first | assumption | rfl | decide | omega) (by first | assumption | rfl | decide | omega) ?_
  refine Z_Vv1 (nx := 53) dX8_passesAll_50 rfl ml_RX8_283 kj_X8_passes kv_X8_passes (sp_passes_k (a := 110) (L := 10) (c := o + 26) (by omega) (by decide) (by decide) (by omega) b42 c42) (by first | assumption | rfl | decide | omega) (by first | assumption | rfl | decide | omega) (by decide) rfl (by first | decide | omega) (by exact Nat.le_of_ble_eq_true rfl) (fun D50 g50 => ?_)
  have b50 : D50 104 40 = 1 := (g50.2.1 104 40 (by omega)).trans b42
  have c50 : D50 104 41 = nI (o + 36) := g50.2.2.trans (congrArg nI (by omega))
  refine X_aload_n (nx := 54) dX8_passesAll_53 rfl rfl rfl ?_
  refine X_aload_n (nx := 55) dX8_passesAll_54 rfl rfl rfl ?_
  refine M_getP (nx := 58) dX8_passesAll_55 rfl fl_RX8_28 rfl (by first | assumption | rfl | decide | omega) (by first | assumption | rfl | decide | omega) (by first | assumption | rfl | decide | omega) ?_
  refine Z_Vv1 (nx := 61) dX8_passesAll_58 rfl ml_RX8_283 kj_X8_passes kv_X8_passes (sp_passes_k (a := 111) (L := 10) (c := o + 36) (by omega) (by decide) (by decide) (by omega) b50 c50) (by first | assumption | rfl | decide | omega) (by first | assumption | rfl | decide | omega) (by decide) rfl (by first | decide | omega) (by exact Nat.le_of_ble_eq_true rfl) (fun D58 g58 => ?_)
  have b58 : D58 104 40 = 1 := (g58.2.1 104 40 (by omega)).trans b50
  have c58 : D58 104 41 = nI (o + 46) := g58.2.2.trans (congrArg nI (by omega))
  refine X_aload_n (nx := 62) dX8_passesAll_61 rfl rfl rfl ?_
  refine X_aload_n (nx := 63) dX8_passesAll_62 rfl rfl rfl ?_
  refine M_getP (nx := 66) dX8_passesAll_63 rfl fl_RX8_31 rfl (by first | assumption | rfl | decide | omega) (by first | assumption | rfl | decide | omega) (by first | assumption | rfl | decide | omega) ?_
  refine Z_Vv1 (nx := 69) dX8_passesAll_66 rfl ml_RX8_283 kj_X8_passes kv_X8_passes (sp_passes_k (a := 112) (L := 10) (c := o + 46) (by omega) (by decide) (by decide) (by omega) b58 c58) (by first | assumption | rfl | decide | omega) (by first | assumption | rfl | decide | omega) (by decide) rfl (by first | decide | omega) (by exact Nat.le_of_ble_eq_true rfl) (fun D66 g66 => ?_)
  have b66 : D66 104 40 = 1 := (g66.2.1 104 40 (by omega)).trans b58
  have c66 : D66 104 41 = nI (o + 56) := g66.2.2.trans (congrArg nI (by omega))
  refine X_aload_n (nx := 70) dX8_passesAll_69 rfl rfl rfl ?_
  refine X_aload_n (nx := 71) dX8_passesAll_70 rfl rfl rfl ?_
  refine M_getP (nx := 74) dX8_passesAll_71 rfl fl_RX8_34 rfl (by first | assumption | rfl | decide | omega) (by first | assumption | rfl | decide | omega) (by first | assumption | rfl | decide | omega) ?_
  refine Z_Vv1 (nx := 77) dX8_passesAll_74 rfl ml_RX8_283 kj_X8_passes kv_X8_passes (sp_passes_k (a := 113) (L := 40) (c := o + 56) (by omega) (by decide) (by decide) (by omega) b66 c66) (by first | assumption | rfl | decide | omega) (by first | assumption | rfl | decide | omega) (by decide) rfl (by first | decide | omega) (by exact Nat.le_of_ble_eq_true rfl) (fun D74 g74 => ?_)
  have b74 : D74 104 40 = 1 := (g74.2.1 104 40 (by omega)).trans b66
  have c74 : D74 104 41 = nI (o + 96) := g74.2.2.trans (congrArg nI (by omega))
  refine X_iload_n (nx := 78) dX8_passesAll_77 rfl rfl rfl ?_
  refine X_if_eq (tgt := 97) (nx := 81) dX8_passesAll_78 rfl rfl (fun h78 => ?_) (fun h78 => ?_)
  · exact absurd h78 (by decide)
  · skip
    refine X_aload_n (nx := 82) dX8_passesAll_81 rfl rfl rfl ?_
    refine M_getP (nx := 85) dX8_passesAll_82 rfl fl_RX8_91 rfl (by first | assumption | rfl | decide | omega) (by first | assumption | rfl | decide | omega) (by first | assumption | rfl | decide | omega) ?_
    refine X_aload_n (nx := 86) dX8_passesAll_85 rfl rfl rfl ?_
    refine M_getI (nx := 89) dX8_passesAll_86 rfl fl_RX8_280 rfl (by first | assumption | rfl | decide | omega) (by first | assumption | rfl | decide | omega) ?_
    refine X_top (c74) ?_
    refine X_aload_n (nx := 90) dX8_passesAll_89 rfl rfl rfl ?_
    refine M_getI (nx := 93) dX8_passesAll_90 rfl fl_RX8_109 rfl (by first | assumption | rfl | decide | omega) (by first | assumption | rfl | decide | omega) ?_
    refine M_st (a := 132) (L := 200) (nx := 94) dX8_passesAll_93 rfl (by decide) (by decide) rfl (by decide) (by omega) ?_
    refine X_goto (tgt := 110) dX8_passesAll_94 rfl ?_
    exact Z_retv dX8_passesAll_110 rfl (keep_all hV h ((Fq.up (by omega)).tr (Fq.up (by omega))) g18 g26 g34 g42 g50 g58 g66 g74)
theorem sp_restAll {B : Bk} {w o : Nat} {x : Int32} {D : Mem} (hV : VB B) (h : KB D o B) (hx : x = nI w) (ho : o = 98 * w) (hw : o ≤ 98) : Rvx 2 j_X8_passesAll [.ref 104, .int x, .int 0] D (fun D' => RB D' B (th_ B) (kd_ B) (fg_ B) ∧ Fq RSS D D') := by
  refine E.start 0 (ls := [some (.ref 104), some (.int x), some (.int 0)]) (by decide +kernel) (Nat.le_of_ble_eq_true rfl) rfl (Nat.le_refl _) (Nat.le_refl _) ?_
  subst hx
  refine X_aload_n (nx := 1) dX8_passesAll_0 rfl rfl rfl ?_
  refine X_bipush (v := nI 98) (nx := 3) dX8_passesAll_1 rfl rfl ?_
  refine X_iload_n (nx := 4) dX8_passesAll_3 rfl rfl rfl ?_
  refine X_imul (nx := 5) dX8_passesAll_4 rfl ?_
  refine X_top (show _ = nI o from (by rw [ho]; exact mul_nI)) ?_
  refine M_putI (nx := 8) dX8_passesAll_5 rfl fl_RX8_280 rfl rfl (by first | assumption | rfl | decide | omega) (by first | assumption | rfl | decide | omega) ?_
  refine X_aload_n (nx := 9) dX8_passesAll_8 rfl rfl rfl ?_
  refine X_iload_n (nx := 10) dX8_passesAll_9 rfl rfl rfl ?_
  refine M_putZ (nx := 13) dX8_passesAll_10 rfl fl_RX8_276 rfl rfl (Or.inl rfl) (by first | assumption | rfl | decide | omega) (by first | assumption | rfl | decide | omega) ?_
  have a40 : up2 (up2 D 104 41 (nI o)) 104 40 0 104 40 = 0 := up2_same
  have a41 : up2 (up2 D 104 41 (nI o)) 104 40 0 104 41 = nI o := (up2_other (by omega)).trans up2_same
  refine X_aload_n (nx := 14) dX8_passesAll_13 rfl rfl rfl ?_
  refine X_aload_n (nx := 15) dX8_passesAll_14 rfl rfl rfl ?_
  refine M_getP (nx := 18) dX8_passesAll_15 rfl fl_RX8_13 rfl (by first | assumption | rfl | decide | omega) (by first | assumption | rfl | decide | omega) (by first | assumption | rfl | decide | omega) ?_
  refine Z_Vv1 (nx := 21) dX8_passesAll_18 rfl ml_RX8_283 kj_X8_passes kv_X8_passes (sp_passes_r (a := 106) (L := 3) (c := o) (by omega) (by decide) (by decide) (by omega) a40 a41) (by first | assumption | rfl | decide | omega) (by first | assumption | rfl | decide | omega) (by decide) rfl (by first | decide | omega) (by exact Nat.le_of_ble_eq_true rfl) (fun D18 g18 => ?_)
  have b18 : D18 104 40 = 0 := (g18.2.1 104 40 (by omega)).trans a40
  have c18 : D18 104 41 = nI (o + 3) := g18.2.2.trans (congrArg nI (by omega))
  refine X_aload_n (nx := 22) dX8_passesAll_21 rfl rfl rfl ?_
  refine X_aload_n (nx := 23) dX8_passesAll_22 rfl rfl rfl ?_
  refine M_getP (nx := 26) dX8_passesAll_23 rfl fl_RX8_16 rfl (by first | assumption | rfl | decide | omega) (by first | assumption | rfl | decide | omega) (by first | assumption | rfl | decide | omega) ?_
  refine Z_Vv1 (nx := 29) dX8_passesAll_26 rfl ml_RX8_283 kj_X8_passes kv_X8_passes (sp_passes_r (a := 107) (L := 3) (c := o + 3) (by omega) (by decide) (by decide) (by omega) b18 c18) (by first | assumption | rfl | decide | omega) (by first | assumption | rfl | decide | omega) (by decide) rfl (by first | decide | omega) (by exact Nat.le_of_ble_eq_true rfl) (fun D26 g26 => ?_)
  have b26 : D26 104 40 = 0 := (g26.2.1 104 40 (by omega)).trans b18
  have c26 : D26 104 41 = nI (o + 6) := g26.2.2.trans (congrArg nI (by omega))
  refine X_aload_n (nx := 30) dX8_passesAll_29 rfl rfl rfl ?_
  refine X_aload_n (nx := 31) dX8_passesAll_30 rfl rfl rfl ?_
  refine M_getP (nx := 34) dX8_passesAll_31 rfl fl_RX8_19 rfl (by first | assumption | rfl | decide | omega) (by first | assumption | rfl | decide | omega) (by first | assumption | rfl | decide | omega) ?_
  refine Z_Vv1 (nx := 37) dX8_passesAll_34 rfl ml_RX8_283 kj_X8_passes kv_X8_passes (sp_passes_r (a := 108) (L := 10) (c := o + 6) (by omega) (by decide) (by decide) (by omega) b26 c26) (by first | assumption | rfl | decide | omega) (by first | assumption | rfl | decide | omega) (by decide) rfl (by first | decide | omega) (by exact Nat.le_of_ble_eq_true rfl) (fun D34 g34 => ?_)
  have b34 : D34 104 40 = 0 := (g34.2.1 104 40 (by omega)).trans b26
  have c34 : D34 104 41 = nI (o + 16) := g34.2.2.trans (congrArg nI (by omega))
  refine X_aload_n (nx := 38) dX8_passesAll_37 rfl rfl rfl ?_
  refine X_aload_n (nx := 39) dX8_passesAll_38 rfl rfl rfl ?_
  refine M_getP (nx := 42) dX8_passesAll_39 rfl fl_RX8_22 rfl (by first | assumption | rfl | decide | omega) (by first | assumption | rfl | decide | omega) (by first | assumption | rfl | decide | omega) ?_
  refine Z_Vv1 (nx := 45) dX8_passesAll_42 rfl ml_RX8_283 kj_X8_passes kv_X8_passes (sp_passes_r (a := 109) (L := 10) (c := o + 16) (by omega) (by decide) (by decide) (by omega) b34 c34) (by first | assumption | rfl | decide | omega) (by first | assumption | rfl | decide | omega) (by decide) rfl (by first | decide | omega) (by exact Nat.le_of_ble_eq_true rfl) (fun D42 g42 => ?_)
  have b42 : D42 104 40 = 0 := (g42.2.1 104 40 (by omega)).trans b34
  have c42 : D42 104 41 = nI (o + 26) := g42.2.2.trans (congrArg nI (by omega))
  refine X_aload_n (nx := 46) dX8_passesAll_45 rfl rfl rfl ?_
  refine X_aload_n (nx := 47) dX8_passesAll_46 rfl rfl rfl ?_
  refine M_getP (nx := 50) dX8_passesAll_47 rfl fl_RX8_25 rfl (by first | assumption | rfl | decide | omega) (by first | assumption | rfl | decide | omega) (by first | assumption | rfl | decide | omega) ?_
  refine Z_Vv1 (nx := 53) dX8_passesAll_50 rfl ml_RX8_283 kj_X8_passes kv_X8_passes (sp_passes_r (a := 110) (L := 10) (c := o + 26) (by omega) (by decide) (by decide) (by omega) b42 c42) (by first | assumption | rfl | decide | omega) (by first | assumption | rfl | decide | omega) (by decide) rfl (by first | decide | omega) (by exact Nat.le_of_ble_eq_true rfl) (fun D50 g50 => ?_)
  have b50 : D50 104 40 = 0 := (g50.2.1 104 40 (by omega)).trans b42
  have c50 : D50 104 41 = nI (o + 36) := g50.2.2.trans (congrArg nI (by omega))
  refine X_aload_n (nx := 54) dX8_passesAll_53 rfl rfl rfl ?_
  refine X_aload_n (nx := 55) dX8_passesAll_54 rfl rfl rfl ?_
  refine M_getP (nx := 58) dX8_passesAll_55 rfl fl_RX8_28 rfl (by first | assumption | rfl | decide | omega) (by first | assumption | rfl | decide | omega) (by first | assumption | rfl | decide | omega) ?_
  refine Z_Vv1 (nx := 61) dX8_passesAll_58 rfl ml_RX8_283 kj_X8_passes kv_X8_passes (sp_passes_r (a := 111) (L := 10) (c := o + 36) (by omega) (by decide) (by decide) (by omega) b50 c50) (by first | assumption | rfl | decide | omega) (by first | assumption | rfl | decide | omega) (by decide) rfl (by first | decide | omega) (by exact Nat.le_of_ble_eq_true rfl) (fun D58 g58 => ?_)
  have b58 : D58 104 40 = 0 := (g58.2.1 104 40 (by omega)).trans b50
  have c58 : D58 104 41 = nI (o + 46) := g58.2.2.trans (congrArg nI (by omega))
  refine X_aload_n (nx := 62) dX8_passesAll_61 rfl rfl rfl ?_
  refine X_aload_n (nx := 63) dX8_passesAll_62 rfl rfl rfl ?_
  refine M_getP (nx := 66) dX8_passesAll_63 rfl fl_RX8_31 rfl (by first | assumption | rfl | decide | omega) (by first | assumption | rfl | decide | omega) (by first | assumption | rfl | decide | omega) ?_
  refine Z_Vv1 (nx := 69) dX8_passesAll_66 rfl ml_RX8_283 kj_X8_passes kv_X8_passes (sp_passes_r (a := 112) (L := 10) (c := o + 46) (by omega) (by decide) (by decide) (by omega) b58 c58) (by first | assumption | rfl | decide | omega) (by first | assumption | rfl | decide | omega) (by decide) rfl (by first | decide | omega) (by exact Nat.le_of_ble_eq_true rfl) (fun D66 g66 => ?_)
  have b66 : D66 104 40 = 0 := (g66.2.1 104 40 (by omega)).trans b58
  have c66 : D66 104 41 = nI (o + 56) := g66.2.2.trans (congrArg nI (by omega))
  refine X_aload_n (nx := 70) dX8_passesAll_69 rfl rfl rfl ?_
  refine X_aload_n (nx := 71) dX8_passesAll_70 rfl rfl rfl ?_
  refine M_getP (nx := 74) dX8_passesAll_71 rfl fl_RX8_34 rfl (by first | assumption | rfl | decide | omega) (by first | assumption | rfl | decide | omega) (by first | assumption | rfl | decide | omega) ?_
  refine Z_Vv1 (nx := 77) dX8_passesAll_74 rfl ml_RX8_283 kj_X8_passes kv_X8_passes (sp_passes_r (a := 113) (L := 40) (c := o + 56) (by omega) (by decide) (by decide) (by omega) b66 c66) (by first | assumption | rfl | decide | omega) (by first | assumption | rfl | decide | omega) (by decide) rfl (by first | decide | omega) (by exact Nat.le_of_ble_eq_true rfl) (fun D74 g74 => ?_)
  have b74 : D74 104 40 = 0 := (g74.2.1 104 40 (by omega)).trans b66
  have c74 : D74 104 41 = nI (o + 96) := g74.2.2.trans (congrArg nI (by omega))
  refine X_iload_n (nx := 78) dX8_passesAll_77 rfl rfl rfl ?_
  refine X_if_eq (tgt := 97) (nx := 81) dX8_passesAll_78 rfl rfl (fun h78 => ?_) (fun h78 => ?_)
  · skip
    refine X_aload_n (nx := 98) dX8_passesAll_97 rfl rfl rfl ?_
    refine X_aload_n (nx := 99) dX8_passesAll_98 rfl rfl rfl ?_
    refine M_getP (nx := 102) dX8_passesAll_99 rfl fl_RX8_91 rfl (by first | assumption | rfl | decide | omega) (by first | assumption | rfl | decide | omega) (by first | assumption | rfl | decide | omega) ?_
    refine X_aload_n (nx := 103) dX8_passesAll_102 rfl rfl rfl ?_
    refine M_getI (nx := 106) dX8_passesAll_103 rfl fl_RX8_280 rfl (by first | assumption | rfl | decide | omega) (by first | assumption | rfl | decide | omega) ?_
    refine X_top (c74) ?_
    refine M_ld (a := 132) (L := 200) (nx := 107) dX8_passesAll_106 rfl (by decide) (by decide) rfl (by decide) (by omega) (rfl) ?_
    refine M_putI (nx := 110) dX8_passesAll_107 rfl fl_RX8_109 rfl rfl (by first | assumption | rfl | decide | omega) (by first | assumption | rfl | decide | omega) ?_
    exact Z_retv dX8_passesAll_110 rfl (rest_all hV h ((Fq.up (by omega)).tr (Fq.up (by omega))) g18 g26 g34 g42 g50 g58 g66 g74)
  · exact absurd h78 (fun q => q rfl)
theorem inv_image {D D' : Mem} {S : St} (h : INV2 D S) (hk : KB D' 0 (bk S)) (hf : Fq (KPS 0) (up2 D 104 39 1) D') : INV2 D' (bk S, bk S, true, tl S, rw_ S, rf S) ∧ Fr inR D D' := by
  have hq : Fq (fun b i => (b = 104 ∧ (i = 39 ∨ i = 40 ∨ i = 41)) ∨ b = 132) D D' := (Fq.up (by omega)).tr (hf.mono (fun b i q => by unfold KPS at q; omega))
  obtain ⟨hb, a1, a2, a3, a4, a5, a6, a7⟩ := h
  refine ⟨⟨?_, ?_, ?_, fun k hk => ?_, ?_, fun k hk => ?_, fun i h1 h2 => ?_, fun _ => hk⟩, hq.toFr (fun b i q => by unfold inR; omega)⟩
  · show RB D' (bk S) _ _ _
    unfold RB at *
    rw [hq.row (b := 106) (fun i => by omega), hq.row (b := 107) (fun i => by omega), hq.row (b := 108) (fun i => by omega), hq.row (b := 109) (fun i => by omega), hq.row (b := 110) (fun i => by omega), hq.row (b := 111) (fun i => by omega), hq.row (b := 112) (fun i => by omega), hq.row (b := 113) (fun i => by omega), hq 104 9 (by omega)]
    exact hb
  · show D' 104 39 = 1
    rw [hf 104 39 (by unfold KPS; omega)]; exact up2_same
  · rw [hq 104 33 (by omega)]; exact a2
  · rw [hq 125 k (by omega)]; exact a3 k hk
  · rw [hq 104 50 (by omega)]; exact a4
  · rw [hq 137 k (by omega)]; exact a5 k hk
  · rw [hq 105 i (by omega)]; exact a6 i h1 h2
theorem inv_on {D D' : Mem} {S : St} {B : Bk} (h : INV2 D S) (hw : WF S) (hk : RB D' B (th_ B) (kd_ B) (fg_ B)) (hf : Fq RSS D D') : INV2 D' (sB S B) ∧ Fr inR D D' :=
  ⟨⟨hk, h.2.both hw (hf.mono (fun b i q => Or.elim q Or.inl (fun q => Or.inr (by unfold SCR; omega))))⟩, hf.toFr (fun b i q => by
    have q2 : ((106 ≤ b ∧ b ≤ 113) ∨ (b = 104 ∧ i = 9)) ∨ (b = 104 ∧ (i = 40 ∨ i = 41)) := q
    show 104 ≤ b ∧ b < 138; omega)⟩
theorem dX8_image_0 : decode cX8_image 0 = .ok (.aload_n 0, 1) := by decide +kernel
theorem dX8_image_1 : decode cX8_image 1 = .ok (.iconst 1, 1) := by decide +kernel
theorem dX8_image_2 : decode cX8_image 2 = .ok (.putfield 287, 3) := by decide +kernel
theorem dX8_image_5 : decode cX8_image 5 = .ok (.aload_n 0, 1) := by decide +kernel
theorem dX8_image_6 : decode cX8_image 6 = .ok (.iconst 0, 1) := by decide +kernel
theorem dX8_image_7 : decode cX8_image 7 = .ok (.iconst 1, 1) := by decide +kernel
theorem dX8_image_8 : decode cX8_image 8 = .ok (.invokevirtual 269, 3) := by decide +kernel
theorem dX8_image_11 : decode cX8_image 11 = .ok (.aload_n 0, 1) := by decide +kernel
theorem dX8_image_12 : decode cX8_image 12 = .ok (.invokevirtual 290, 3) := by decide +kernel
theorem dX8_image_15 : decode cX8_image 15 = .ok (.invokestatic 293, 3) := by decide +kernel
theorem dX8_image_18 : decode cX8_image 18 = .ok (.ireturn, 1) := by decide +kernel
theorem rb_39 {D : Mem} {B : Bk} {T : Nat → Bool} {K F : Nat → Nat} {x : Int32} (h : RB D B T K F) : RB (up2 D 104 39 x) B T K F := by
  have hq : Fq (fun b i => b = 104 ∧ i = 39) D (up2 D 104 39 x) := Fq.up ⟨rfl, rfl⟩
  unfold RB at *
  rw [hq.row (b := 106) (fun i => by omega), hq.row (b := 107) (fun i => by omega), hq.row (b := 108) (fun i => by omega), hq.row (b := 109) (fun i => by omega), hq.row (b := 110) (fun i => by omega), hq.row (b := 111) (fun i => by omega), hq.row (b := 112) (fun i => by omega), hq.row (b := 113) (fun i => by omega), hq 104 9 (by omega)]
  exact h
theorem sp_X8_image {S : St} {D : Mem} (h : INV2 D S) (hw : WF S) : Rix 3 j_X8_image [.ref 104] D (fun u D' => CK2 D (m_image S) u D') := by
  refine E.start 0 (ls := [some (.ref 104)]) (by decide +kernel) (Nat.le_of_ble_eq_true rfl) rfl (Nat.le_refl _) (Nat.le_refl _) ?_
  have hcm := hw.1.2.1
  have hB2 := h.1.2.1
  refine X_aload_n (nx := 1) dX8_image_0 rfl rfl rfl ?_
  refine X_iconst (v := 1) (nx := 2) dX8_image_1 rfl rfl ?_
  refine M_putZ (nx := 5) dX8_image_2 rfl fl_RX8_287 rfl rfl (Or.inr rfl) (by first | assumption | rfl | decide | omega) (by first | assumption | rfl | decide | omega) ?_
  refine X_aload_n (nx := 6) dX8_image_5 rfl rfl rfl ?_
  refine X_iconst (v := 0) (nx := 7) dX8_image_6 rfl rfl ?_
  refine X_iconst (v := 1) (nx := 8) dX8_image_7 rfl rfl ?_
  refine Z_Vv2 (nx := 11) dX8_image_8 rfl ml_RX8_269 kj_X8_passesAll kv_X8_passesAll (sp_keepAll (B := bk S) (w := 0) (o := 0) hw.1 (rb_39 h.1) rfl rfl (by omega)) (by first | assumption | rfl | decide | omega) (by first | assumption | rfl | decide | omega) (by decide) rfl (by first | decide | omega) (by exact Nat.le_of_ble_eq_true rfl) (fun D8 g8 => ?_)
  have hv := inv_image h g8.1 g8.2
  refine X_aload_n (nx := 12) dX8_image_11 rfl rfl rfl ?_
  refine Y_Vi0 (nx := 15) dX8_image_12 rfl ml_RX8_290 kj_X8_setThere kv_X8_setThere (sp_X8_setThere hv.1.1 hw.1) (by first | assumption | rfl | decide | omega) (by first | assumption | rfl | decide | omega) (by decide) rfl (by first | decide | omega) (by exact Nat.le_of_ble_eq_true rfl) ?_
  refine Y_Si1 (nx := 18) dX8_image_15 rfl ml_RX8_293 kj_X8_bits ks_X8_bits (sp_X8_bits rfl (mkn_lt _ 10)) (by first | decide | omega) (by exact Nat.le_of_ble_eq_true rfl) ?_
  exact Z_reti dX8_image_18 (Or.inl rfl) ⟨rfl, hv.1, hv.2⟩
theorem dX8_on_0 : decode cX8_on 0 = .ok (.aload_n 0, 1) := by decide +kernel
theorem dX8_on_1 : decode cX8_on 1 = .ok (.getfield 287, 3) := by decide +kernel
theorem dX8_on_4 : decode cX8_on 4 = .ok (.ifCond .ne 10, 3) := by decide +kernel
theorem dX8_on_7 : decode cX8_on 7 = .ok (.aload_n 0, 1) := by decide +kernel
theorem dX8_on_8 : decode cX8_on 8 = .ok (.bipush (-3), 2) := by decide +kernel
theorem dX8_on_10 : decode cX8_on 10 = .ok (.invokevirtual 211, 3) := by decide +kernel
theorem dX8_on_13 : decode cX8_on 13 = .ok (.ireturn, 1) := by decide +kernel
theorem dX8_on_14 : decode cX8_on 14 = .ok (.aload_n 0, 1) := by decide +kernel
theorem dX8_on_15 : decode cX8_on 15 = .ok (.iconst 0, 1) := by decide +kernel
theorem dX8_on_16 : decode cX8_on 16 = .ok (.iconst 0, 1) := by decide +kernel
theorem dX8_on_17 : decode cX8_on 17 = .ok (.invokevirtual 269, 3) := by decide +kernel
theorem dX8_on_20 : decode cX8_on 20 = .ok (.aload_n 0, 1) := by decide +kernel
theorem dX8_on_21 : decode cX8_on 21 = .ok (.invokevirtual 290, 3) := by decide +kernel
theorem dX8_on_24 : decode cX8_on 24 = .ok (.invokestatic 293, 3) := by decide +kernel
theorem dX8_on_27 : decode cX8_on 27 = .ok (.ireturn, 1) := by decide +kernel
theorem sp_X8_on {S : St} {D : Mem} (h : INV2 D S) (hw : WF S) : Rix 3 j_X8_on [.ref 104] D (fun u D' => CK2 D (m_on S) u D') := by
  refine E.start 0 (ls := [some (.ref 104)]) (by decide +kernel) (Nat.le_of_ble_eq_true rfl) rfl (Nat.le_refl _) (Nat.le_refl _) ?_
  have hcm := hw.1.2.1
  have hB2 := h.1.2.1
  refine X_aload_n (nx := 1) dX8_on_0 rfl rfl rfl ?_
  refine M_getI (nx := 4) dX8_on_1 rfl fl_RX8_287 rfl (by first | assumption | rfl | decide | omega) (by first | assumption | rfl | decide | omega) ?_
  refine X_top (h.2.1) ?_
  refine X_if_ne (tgt := 14) (nx := 7) dX8_on_4 rfl rfl (fun h4 => ?_) (fun h4 => ?_)
  · skip
    have c4 := b2i_t.mp h4
    have hk := h.2.2.2.2.2.2.2 c4
    refine X_aload_n (nx := 15) dX8_on_14 rfl rfl rfl ?_
    refine X_iconst (v := 0) (nx := 16) dX8_on_15 rfl rfl ?_
    refine X_iconst (v := 0) (nx := 17) dX8_on_16 rfl rfl ?_
    refine Z_Vv2 (nx := 20) dX8_on_17 rfl ml_RX8_269 kj_X8_passesAll kv_X8_passesAll (sp_restAll (B := kp S) (w := 0) (o := 0) (hw.2.2.1 c4).1 hk rfl rfl (by omega)) (by first | assumption | rfl | decide | omega) (by first | assumption | rfl | decide | omega) (by decide) rfl (by first | decide | omega) (by exact Nat.le_of_ble_eq_true rfl) (fun D17 g17 => ?_)
    have hv := inv_on h hw g17.1 g17.2
    refine X_aload_n (nx := 21) dX8_on_20 rfl rfl rfl ?_
    refine Y_Vi0 (nx := 24) dX8_on_21 rfl ml_RX8_290 kj_X8_setThere kv_X8_setThere (sp_X8_setThere hv.1.1 (hw.2.2.1 c4).1) (by first | assumption | rfl | decide | omega) (by first | assumption | rfl | decide | omega) (by decide) rfl (by first | decide | omega) (by exact Nat.le_of_ble_eq_true rfl) ?_
    refine Y_Si1 (nx := 27) dX8_on_24 rfl ml_RX8_293 kj_X8_bits ks_X8_bits (sp_X8_bits rfl (mkn_lt _ 10)) (by first | decide | omega) (by exact Nat.le_of_ble_eq_true rfl) ?_
    exact Z_reti dX8_on_27 (Or.inl rfl) (by unfold m_on; rw [if_pos c4]; exact ⟨rfl, hv.1, hv.2⟩)
  · skip
    have n4 := nb h4
    refine X_aload_n (nx := 8) dX8_on_7 rfl rfl rfl ?_
    refine X_bipush (v := -3) (nx := 10) dX8_on_8 rfl rfl ?_
    refine Y_Vi1 (nx := 13) dX8_on_10 rfl ml_RX8_211 kj_X8_no kv_X8_no (sp_X8_no (k := 3) rfl (by omega) (by omega)) (by first | assumption | rfl | decide | omega) (by first | assumption | rfl | decide | omega) (by decide) rfl (by first | decide | omega) (by exact Nat.le_of_ble_eq_true rfl) ?_
    exact Z_reti dX8_on_13 (Or.inl rfl) (by unfold m_on; rw [if_neg n4]; exact ck2_no (k := 3) h Fr.rf (by omega) (by omega))
