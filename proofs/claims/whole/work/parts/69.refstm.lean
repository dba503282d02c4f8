/-! THE REFERENCE: a statement told -/
def sgT (t : List Nat) (i : Nat) : Nat := sgo (t.getD (i + 1) 0) (t.getD (i + 2) 0 - 48)
/-- the segments from i on, m signs -/
def sl (t : List Nat) : Nat → Nat → List Nat
  | _, 0 => []
  | i, m + 1 => if t.getD i 0 = 47 then sgT t i :: sl t (i + 1) m else sl t (i + 1) m
theorem sl_add {t : List Nat} {k : Nat} : ∀ m i, sl t i (m + k) = sl t i m ++ sl t (i + m) k := by
  intro m
  induction m with
  | zero => intro i; rw [Nat.zero_add]; rfl
  | succ m ih =>
    intro i
    rw [show m + 1 + k = (m + k) + 1 by omega, sl, sl, ih (i + 1), show i + 1 + m = i + (m + 1) by omega]
    split
    · rfl
    · rfl
theorem sl_no {t : List Nat} : ∀ m i, (∀ k, i ≤ k → k < i + m → t.getD k 0 ≠ 47) → sl t i m = [] := by
  intro m
  induction m with
  | zero => intro i _; rfl
  | succ m ih =>
    intro i h
    rw [sl, if_neg (h i (Nat.le_refl _) (by omega))]
    exact ih (i + 1) (fun k a b => h k (by omega) (by omega))
theorem sl_next {t : List Nat} {a i j : Nat} (h : t.getD i 0 = 47) (hn : ∀ k, i + 1 ≤ k → k < j → t.getD k 0 ≠ 47) (ha : a ≤ i) (hj : i + 1 ≤ j) : sl t a (j - a) = sl t a (i - a) ++ [sgT t i] := by
  rw [show j - a = (i - a) + ((j - (i + 1)) + 1) by omega, sl_add, show a + (i - a) = i by omega]
  congr 1
  rw [sl, if_pos h, sl_no _ _ (fun k a b => hn k a (by omega))]
theorem sg_eq {D : Mem} {t : List Nat} {i c : Nat} (hT : TPE D t i) (h : sgI t i = nI c) (hc : c < 256) : i < t.length ∧ t.getD i 0 = c := by
  by_cases hi : i < t.length
  · have := hT.c hi
    rw [sgI_y hi, nI_eq (by omega) (by omega)] at h
    exact ⟨hi, h⟩
  · rw [sgI_n hi] at h
    have h2 := nI_pos' (n := c) (by omega)
    rw [← h] at h2
    exact absurd h2 (by decide)
theorem sg_ne {t : List Nat} {i c : Nat} (hi : i < t.length) (h : ¬ sgI t i = nI c) : t.getD i 0 ≠ c := fun e => h (by rw [sgI_y hi, e])
/-- the state of the loop of segments -/
def SGI (D : Mem) (t : List Nat) (n0 s a i : Nat) : Prop := TPE D t i ∧ ALV t i ∧ qs t i = 3 ∧ a ≤ i ∧ (∀ k, a ≤ k → k < i → t.getD k 0 ≠ 59) ∧ D 104 37 = nI (n0 + (sl t a (i - a)).length) ∧ (∀ k, k < (sl t a (i - a)).length → D 131 (n0 + k) = nI ((sl t a (i - a)).getD k 0)) ∧ n0 + (sl t a (i - a)).length ≤ i ∧ D 104 35 = nI s ∧ D 129 s = nI n0
def SGQ (n0 s b i : Nat) : Prop := (b = 104 ∧ (i = 34 ∨ i = 37)) ∨ (b = 131 ∧ n0 ≤ i) ∨ (b = 130 ∧ i = s) ∨ (b = 129 ∧ i = s)
def SGM (t : List Nat) (n0 s a : Nat) (D : Mem) (u : Int32) (D' : Mem) : Prop := Fq (SGQ n0 s) D D' ∧
  ((u = 1 ∧ ∃ cl, SGI D' t n0 s a cl ∧ ¬ sgI t cl = nI 47 ∧ D' 130 s = nI (sl t a (cl - a)).length) ∨ (u = 0 ∧ ∃ j, D' 104 34 = nI j ∧ ffp t = some j))
theorem SGI.many {D : Mem} {t : List Nat} {n0 s a i : Nat} {x : Int32} (h : SGI D t n0 s a i) : SGI (up2 D 130 s x) t n0 s a i := by
  obtain ⟨h1, h2, h3, h4, h5, h6, h7, h8, h9, h10⟩ := h
  exact ⟨h1.fq (congrFun (up2_ne (by omega)) 33) (up2_ne (by omega)) ((congrFun (up2_ne (by omega)) 34).trans h1.2.2.1) h1.2.2.2.1, h2, h3, h4, h5, (congrFun (up2_ne (by omega)) 37).trans h6, fun k hk => (congrFun (up2_ne (by omega)) _).trans (h7 k hk), h8, (congrFun (up2_ne (by omega)) 35).trans h9, (congrFun (up2_ne (by omega)) s).trans h10⟩
theorem SGI.next {D D1 D2 : Mem} {t : List Nat} {n0 s a i j : Nat} (h : SGI D t n0 s a i) (h47 : t.getD i 0 = 47) (hD : D1 = up2 D 104 34 (nI (i + 1))) (gf : Fq (RSQ (n0 + (sl t a (i - a)).length)) D1 D2) (r1 : TPE D2 t j) (r2 : ALV t j) (r3 : qs t j = 3) (r4 : i + 1 < j) (r5 : ∀ k, i + 1 ≤ k → k < j → t.getD k 0 ≠ 47 ∧ t.getD k 0 ≠ 59) (r6 : D2 131 (n0 + (sl t a (i - a)).length) = nI (sgT t i)) (r7 : D2 104 37 = nI (n0 + (sl t a (i - a)).length + 1)) : SGI D2 t n0 s a j := by
  obtain ⟨h1, h2, h3, h4, h5, h6, h7, h8, h9, h10⟩ := h
  have e := sl_next h47 (fun k x y => (r5 k x y).1) h4 (by omega)
  have el : (sl t a (j - a)).length = (sl t a (i - a)).length + 1 := by rw [e, List.length_append]; rfl
  refine ⟨r1, r2, r3, by omega, fun k x y => ?_, ?_, fun k hk => ?_, by omega, ?_, ?_⟩
  · by_cases q : k < i
    · exact h5 k x q
    · by_cases q2 : k = i
      · rw [q2, h47]; decide
      · exact (r5 k (by omega) y).2
  · rw [r7, el]; rfl
  · rw [el] at hk
    by_cases q : k < (sl t a (i - a)).length
    · rw [gf 131 (n0 + k) (by unfold RSQ; omega), hD, up2_ne (by omega), h7 k q, e, getD_app1 q]
    · obtain rfl : k = (sl t a (i - a)).length := by omega
      rw [r6, e, getD_app2]
  · rw [gf 104 35 (by unfold RSQ; omega), hD, up2_other (by omega)]; exact h9
  · rw [gf 129 s (by unfold RSQ; omega), hD, up2_ne (by omega)]; exact h10
theorem dX8_readsSegments_0 : decode cX8_readsSegments 0 = .ok (.aload_n 0, 1) := by decide +kernel
theorem dX8_readsSegments_1 : decode cX8_readsSegments 1 = .ok (.getfield 82, 3) := by decide +kernel
theorem dX8_readsSegments_4 : decode cX8_readsSegments 4 = .ok (.aload_n 0, 1) := by decide +kernel
theorem dX8_readsSegments_5 : decode cX8_readsSegments 5 = .ok (.getfield 227, 3) := by decide +kernel
theorem dX8_readsSegments_8 : decode cX8_readsSegments 8 = .ok (.aload_n 0, 1) := by decide +kernel
theorem dX8_readsSegments_9 : decode cX8_readsSegments 9 = .ok (.getfield 224, 3) := by decide +kernel
theorem dX8_readsSegments_12 : decode cX8_readsSegments 12 = .ok (.iastore, 1) := by decide +kernel
theorem dX8_readsSegments_13 : decode cX8_readsSegments 13 = .ok (.aload_n 0, 1) := by decide +kernel
theorem dX8_readsSegments_14 : decode cX8_readsSegments 14 = .ok (.invokevirtual 217, 3) := by decide +kernel
theorem dX8_readsSegments_17 : decode cX8_readsSegments 17 = .ok (.bipush 47, 2) := by decide +kernel
theorem dX8_readsSegments_19 : decode cX8_readsSegments 19 = .ok (.if_icmp .ne 22, 3) := by decide +kernel
theorem dX8_readsSegments_22 : decode cX8_readsSegments 22 = .ok (.aload_n 0, 1) := by decide +kernel
theorem dX8_readsSegments_23 : decode cX8_readsSegments 23 = .ok (.dup, 1) := by decide +kernel
theorem dX8_readsSegments_24 : decode cX8_readsSegments 24 = .ok (.getfield 214, 3) := by decide +kernel
theorem dX8_readsSegments_27 : decode cX8_readsSegments 27 = .ok (.iconst 1, 1) := by decide +kernel
theorem dX8_readsSegments_28 : decode cX8_readsSegments 28 = .ok (.iadd, 1) := by decide +kernel
theorem dX8_readsSegments_29 : decode cX8_readsSegments 29 = .ok (.putfield 214, 3) := by decide +kernel
theorem dX8_readsSegments_32 : decode cX8_readsSegments 32 = .ok (.aload_n 0, 1) := by decide +kernel
theorem dX8_readsSegments_33 : decode cX8_readsSegments 33 = .ok (.invokevirtual 230, 3) := by decide +kernel
theorem dX8_readsSegments_36 : decode cX8_readsSegments 36 = .ok (.ifCond .ne (-23), 3) := by decide +kernel
theorem dX8_readsSegments_39 : decode cX8_readsSegments 39 = .ok (.iconst 0, 1) := by decide +kernel
theorem dX8_readsSegments_40 : decode cX8_readsSegments 40 = .ok (.ireturn, 1) := by decide +kernel
theorem dX8_readsSegments_41 : decode cX8_readsSegments 41 = .ok (.aload_n 0, 1) := by decide +kernel
theorem dX8_readsSegments_42 : decode cX8_readsSegments 42 = .ok (.getfield 85, 3) := by decide +kernel
theorem dX8_readsSegments_45 : decode cX8_readsSegments 45 = .ok (.aload_n 0, 1) := by decide +kernel
theorem dX8_readsSegments_46 : decode cX8_readsSegments 46 = .ok (.getfield 227, 3) := by decide +kernel
theorem dX8_readsSegments_49 : decode cX8_readsSegments 49 = .ok (.aload_n 0, 1) := by decide +kernel
theorem dX8_readsSegments_50 : decode cX8_readsSegments 50 = .ok (.getfield 224, 3) := by decide +kernel
theorem dX8_readsSegments_53 : decode cX8_readsSegments 53 = .ok (.aload_n 0, 1) := by decide +kernel
theorem dX8_readsSegments_54 : decode cX8_readsSegments 54 = .ok (.getfield 82, 3) := by decide +kernel
theorem dX8_readsSegments_57 : decode cX8_readsSegments 57 = .ok (.aload_n 0, 1) := by decide +kernel
theorem dX8_readsSegments_58 : decode cX8_readsSegments 58 = .ok (.getfield 227, 3) := by decide +kernel
theorem dX8_readsSegments_61 : decode cX8_readsSegments 61 = .ok (.iaload, 1) := by decide +kernel
theorem dX8_readsSegments_62 : decode cX8_readsSegments 62 = .ok (.isub, 1) := by decide +kernel
theorem dX8_readsSegments_63 : decode cX8_readsSegments 63 = .ok (.iastore, 1) := by decide +kernel
theorem dX8_readsSegments_64 : decode cX8_readsSegments 64 = .ok (.iconst 1, 1) := by decide +kernel
theorem dX8_readsSegments_65 : decode cX8_readsSegments 65 = .ok (.ireturn, 1) := by decide +kernel
theorem lp_X8_readsSegments {t : List Nat} {n0 s a : Nat} {D0 : Mem} (hs33 : s < 33) : ∀ (m : Nat) (i : Nat) (D : Mem), t.length ≤ i + m → SGI D t n0 s a i → Fq (SGQ n0 s) D0 D → X 3 138 j_X8_readsSegments 13 [some (.ref 104)] [] (138, P0, D) (fun x σ => ∃ (u : Int32) (D' : Mem), x = [.int u] ∧ σ = wd D' ∧ SGM t n0 s a D0 u D') := by
  intro m
  induction m with
  | zero =>
    intro i D him hI hF
    obtain ⟨hT, hA, hq, ha, hn, h37, hv, hb, h35, h129⟩ := id hI
    have h96 := hT.2.2.2.2.1
    have hle := hT.2.2.2.1
    refine X_aload_n (nx := 14) dX8_readsSegments_13 rfl rfl rfl ?_
    refine Y_Vi0 (nx := 17) dX8_readsSegments_14 rfl ml_RX8_217 kj_X8_sign kv_X8_sign (sp_X8_sign hT) (by first | assumption | rfl | decide | omega) (by first | assumption | rfl | decide | omega) (by decide) rfl (by first | decide | omega) (by exact Nat.le_of_ble_eq_true rfl) ?_
    refine X_bipush (v := nI 47) (nx := 19) dX8_readsSegments_17 rfl rfl ?_
    refine X_icmp_ne (tgt := 41) (nx := 22) dX8_readsSegments_19 rfl rfl (fun h19 => ?_) (fun h19 => ?_)
    · skip
      refine X_aload_n (nx := 42) dX8_readsSegments_41 rfl rfl rfl ?_
      refine M_getP (nx := 45) dX8_readsSegments_42 rfl fl_RX8_85 rfl (by first | assumption | rfl | decide | omega) (by first | assumption | rfl | decide | omega) (by first | assumption | rfl | decide | omega) ?_
      refine X_aload_n (nx := 46) dX8_readsSegments_45 rfl rfl rfl ?_
      refine M_getI (nx := 49) dX8_readsSegments_46 rfl fl_RX8_227 rfl (by first | assumption | rfl | decide | omega) (by first | assumption | rfl | decide | omega) ?_
      refine X_top (h35) ?_
      refine X_aload_n (nx := 50) dX8_readsSegments_49 rfl rfl rfl ?_
      refine M_getI (nx := 53) dX8_readsSegments_50 rfl fl_RX8_224 rfl (by first | assumption | rfl | decide | omega) (by first | assumption | rfl | decide | omega) ?_
      refine X_top (h37) ?_
      refine X_aload_n (nx := 54) dX8_readsSegments_53 rfl rfl rfl ?_
      refine M_getP (nx := 57) dX8_readsSegments_54 rfl fl_RX8_82 rfl (by first | assumption | rfl | decide | omega) (by first | assumption | rfl | decide | omega) (by first | assumption | rfl | decide | omega) ?_
      refine X_aload_n (nx := 58) dX8_readsSegments_57 rfl rfl rfl ?_
      refine M_getI (nx := 61) dX8_readsSegments_58 rfl fl_RX8_227 rfl (by first | assumption | rfl | decide | omega) (by first | assumption | rfl | decide | omega) ?_
      refine X_top (h35) ?_
      refine M_ld (a := 129) (L := 33) (nx := 62) dX8_readsSegments_61 rfl (by decide) (by decide) rfl (by decide) (by omega) (h129) ?_
      refine X_isub (nx := 63) dX8_readsSegments_62 rfl ?_
      refine X_top (show _ = nI (sl t a (i - a)).length from (sub_nI (by omega)).trans (congrArg nI (by omega))) ?_
      refine M_st (a := 130) (L := 33) (nx := 64) dX8_readsSegments_63 rfl (by decide) (by decide) rfl (by decide) (by omega) ?_
      refine X_iconst (v := 1) (nx := 65) dX8_readsSegments_64 rfl rfl ?_
      exact Z_reti dX8_readsSegments_65 (Or.inr ⟨rfl, by first | exact Or.inl rfl | exact Or.inr rfl | exact b2i_01 _ | assumption⟩) ⟨hF.tr (Fq.up (by unfold SGQ; omega)), Or.inl ⟨rfl, i, hI.many, h19, up2_same⟩⟩
    · exact absurd h19 (fun q => by have := (sg_eq hT q (by omega)).1; omega)
  | succ m ih =>
    intro i D him hI hF
    obtain ⟨hT, hA, hq, ha, hn, h37, hv, hb, h35, h129⟩ := id hI
    have h96 := hT.2.2.2.2.1
    have hle := hT.2.2.2.1
    refine X_aload_n (nx := 14) dX8_readsSegments_13 rfl rfl rfl ?_
    refine Y_Vi0 (nx := 17) dX8_readsSegments_14 rfl ml_RX8_217 kj_X8_sign kv_X8_sign (sp_X8_sign hT) (by first | assumption | rfl | decide | omega) (by first | assumption | rfl | decide | omega) (by decide) rfl (by first | decide | omega) (by exact Nat.le_of_ble_eq_true rfl) ?_
    refine X_bipush (v := nI 47) (nx := 19) dX8_readsSegments_17 rfl rfl ?_
    refine X_icmp_ne (tgt := 41) (nx := 22) dX8_readsSegments_19 rfl rfl (fun h19 => ?_) (fun h19 => ?_)
    · skip
      refine X_aload_n (nx := 42) dX8_readsSegments_41 rfl rfl rfl ?_
      refine M_getP (nx := 45) dX8_readsSegments_42 rfl fl_RX8_85 rfl (by first | assumption | rfl | decide | omega) (by first | assumption | rfl | decide | omega) (by first | assumption | rfl | decide | omega) ?_
      refine X_aload_n (nx := 46) dX8_readsSegments_45 rfl rfl rfl ?_
      refine M_getI (nx := 49) dX8_readsSegments_46 rfl fl_RX8_227 rfl (by first | assumption | rfl | decide | omega) (by first | assumption | rfl | decide | omega) ?_
      refine X_top (h35) ?_
      refine X_aload_n (nx := 50) dX8_readsSegments_49 rfl rfl rfl ?_
      refine M_getI (nx := 53) dX8_readsSegments_50 rfl fl_RX8_224 rfl (by first | assumption | rfl | decide | omega) (by first | assumption | rfl | decide | omega) ?_
      refine X_top (h37) ?_
      refine X_aload_n (nx := 54) dX8_readsSegments_53 rfl rfl rfl ?_
      refine M_getP (nx := 57) dX8_readsSegments_54 rfl fl_RX8_82 rfl (by first | assumption | rfl | decide | omega) (by first | assumption | rfl | decide | omega) (by first | assumption | rfl | decide | omega) ?_
      refine X_aload_n (nx := 58) dX8_readsSegments_57 rfl rfl rfl ?_
      refine M_getI (nx := 61) dX8_readsSegments_58 rfl fl_RX8_227 rfl (by first | assumption | rfl | decide | omega) (by first | assumption | rfl | decide | omega) ?_
      refine X_top (h35) ?_
      refine M_ld (a := 129) (L := 33) (nx := 62) dX8_readsSegments_61 rfl (by decide) (by decide) rfl (by decide) (by omega) (h129) ?_
      refine X_isub (nx := 63) dX8_readsSegments_62 rfl ?_
      refine X_top (show _ = nI (sl t a (i - a)).length from (sub_nI (by omega)).trans (congrArg nI (by omega))) ?_
      refine M_st (a := 130) (L := 33) (nx := 64) dX8_readsSegments_63 rfl (by decide) (by decide) rfl (by decide) (by omega) ?_
      refine X_iconst (v := 1) (nx := 65) dX8_readsSegments_64 rfl rfl ?_
      exact Z_reti dX8_readsSegments_65 (Or.inr ⟨rfl, by first | exact Or.inl rfl | exact Or.inr rfl | exact b2i_01 _ | assumption⟩) ⟨hF.tr (Fq.up (by unfold SGQ; omega)), Or.inl ⟨rfl, i, hI.many, h19, up2_same⟩⟩
    · skip
      obtain ⟨hil, h47⟩ := sg_eq hT h19 (by omega)
      have hs := hA.s (r := 4) hq (by rw [h47]; rfl) (by decide)
      refine X_aload_n (nx := 23) dX8_readsSegments_22 rfl rfl rfl ?_
      refine X_dup (nx := 24) dX8_readsSegments_23 rfl rfl ?_
      refine M_getI (nx := 27) dX8_readsSegments_24 rfl fl_RX8_214 rfl (by first | assumption | rfl | decide | omega) (by first | assumption | rfl | decide | omega) ?_
      refine X_top (hT.2.2.1) ?_
      refine X_iconst (v := 1) (nx := 28) dX8_readsSegments_27 rfl rfl ?_
      refine X_iadd (nx := 29) dX8_readsSegments_28 rfl ?_
      refine X_top (nI_1 _) ?_
      refine M_putI (nx := 32) dX8_readsSegments_29 rfl fl_RX8_214 rfl rfl (by first | assumption | rfl | decide | omega) (by first | assumption | rfl | decide | omega) ?_
      have hT2 : TPE (up2 D 104 34 (nI (i + 1))) t (i + 1) := hT.fq (up2_other (by omega)) (up2_ne (by omega)) up2_same hil
      refine X_aload_n (nx := 33) dX8_readsSegments_32 rfl rfl rfl ?_
      refine Z_Vi0 (nx := 36) dX8_readsSegments_33 rfl ml_RX8_230 kj_X8_readsSegment kv_X8_readsSegment (sp_X8_readsSegment hT2 hs.1 hs.2 ((up2_other (by omega)).trans h37) (by omega)) (by first | assumption | rfl | decide | omega) (by first | assumption | rfl | decide | omega) (by decide) rfl (by first | decide | omega) (by exact Nat.le_of_ble_eq_true rfl) (fun u33 D33 g33 => ?_)
      refine X_if_ne (tgt := 13) (nx := 39) dX8_readsSegments_36 rfl rfl (fun h36 => ?_) (fun h36 => ?_)
      · skip
        obtain ⟨gf, g⟩ := g33
        rcases g with ⟨_, j, r1, r2, r3, r4, r5, r6, r7⟩ | ⟨z, _⟩
        · exact ih j D33 (by omega) (hI.next h47 rfl gf r1 r2 r3 r4 r5 r6 r7) ((hF.tr (Fq.up (by unfold SGQ; omega))).tr (gf.mono (fun b x hb => by unfold RSQ at hb; unfold SGQ; omega)))
        · exact absurd z h36
      · skip
        refine X_iconst (v := 0) (nx := 40) dX8_readsSegments_39 rfl rfl ?_
        exact Z_reti dX8_readsSegments_40 (Or.inr ⟨rfl, by first | exact Or.inl rfl | exact Or.inr rfl | exact b2i_01 _ | assumption⟩) (by
          obtain ⟨gf, g⟩ := g33
          rcases g with ⟨e, _⟩ | ⟨_, z⟩
          · exact absurd (e.symm.trans h36) (by decide)
          · exact ⟨(hF.tr (Fq.up (by unfold SGQ; omega))).tr (gf.mono (fun b x hb => by unfold RSQ at hb; unfold SGQ; omega)), Or.inr ⟨rfl, z⟩⟩)
theorem sp_X8_readsSegments {t : List Nat} {n s a : Nat} {D : Mem} (hT : TPE D t a) (hA : ALV t a) (hq : qs t a = 3) (h37 : D 104 37 = nI n) (hb : n ≤ a) (h35 : D 104 35 = nI s) (hs33 : s < 33) : Rix 3 j_X8_readsSegments [.ref 104] D (fun u D' => SGM t n s a D u D') := by
  refine E.start 0 (ls := [some (.ref 104)]) (by decide +kernel) (Nat.le_of_ble_eq_true rfl) rfl (Nat.le_refl _) (Nat.le_refl _) ?_
  refine X_aload_n (nx := 1) dX8_readsSegments_0 rfl rfl rfl ?_
  refine M_getP (nx := 4) dX8_readsSegments_1 rfl fl_RX8_82 rfl (by first | assumption | rfl | decide | omega) (by first | assumption | rfl | decide | omega) (by first | assumption | rfl | decide | omega) ?_
  refine X_aload_n (nx := 5) dX8_readsSegments_4 rfl rfl rfl ?_
  refine M_getI (nx := 8) dX8_readsSegments_5 rfl fl_RX8_227 rfl (by first | assumption | rfl | decide | omega) (by first | assumption | rfl | decide | omega) ?_
  refine X_top (h35) ?_
  refine X_aload_n (nx := 9) dX8_readsSegments_8 rfl rfl rfl ?_
  refine M_getI (nx := 12) dX8_readsSegments_9 rfl fl_RX8_224 rfl (by first | assumption | rfl | decide | omega) (by first | assumption | rfl | decide | omega) ?_
  refine X_top (h37) ?_
  refine M_st (a := 129) (L := 33) (nx := 13) dX8_readsSegments_12 rfl (by decide) (by decide) rfl (by decide) (by omega) ?_
  refine lp_X8_readsSegments hs33 (t.length - a) a _ (by omega) ?_ (Fq.up (by unfold SGQ; omega))
  have e : sl t a (a - a) = [] := (by rw [Nat.sub_self]; rfl)
  refine ⟨hT.fq (congrFun (up2_ne (by omega)) 33) (up2_ne (by omega)) ((congrFun (up2_ne (by omega)) 34).trans hT.2.2.1) hT.2.2.2.1, hA, hq, Nat.le_refl _, fun k x y => by omega, ?_, fun k hk => ?_, ?_, (congrFun (up2_ne (by omega)) 35).trans h35, up2_same⟩
  · rw [e]; exact (congrFun (up2_ne (by omega)) 37).trans h37
  · rw [e] at hk; exact absurd hk (Nat.not_lt_zero _)
  · rw [e]; exact hb
theorem dgY {t : List Nat} {i q r : Nat} (hA : ALV t i) (hq : qs t i = q) (hd : ∀ c, dl q c = if dig c = true then r else 10) (hr : r ≠ 10) (h : isd t i = true) : ALV t (i + 1) ∧ qs t (i + 1) = r := hA.s hq (by rw [hd, if_pos (isd_t h).2]) hr
theorem dgN {t : List Nat} {i q r : Nat} (hA : ALV t i) (hi : i ≤ t.length) (hq : qs t i = q) (hd : ∀ c, dl q c = if dig c = true then r else 10) (q0 : q ≠ 0) (h : isd t i = false) : ffp t = some i := by
  refine hA.fail hi hq ?_
  by_cases hl : i < t.length
  · exact Or.inl ⟨hl, by rw [hd, if_neg (by rw [isd_f h hl]; decide)]⟩
  · exact Or.inr ⟨by omega, Or.inl q0⟩
/-- what a statement may change -/
def STQ (s n b i : Nat) : Prop := (b = 104 ∧ (i = 34 ∨ i = 36 ∨ i = 37)) ∨ (b = 126 ∧ i = s) ∨ (b = 127 ∧ i = s) ∨ (b = 128 ∧ 3 * s ≤ i ∧ i ≤ 3 * s + 2) ∨ (b = 129 ∧ i = s) ∨ (b = 130 ∧ i = s) ∨ (b = 131 ∧ n ≤ i)
/-- statement s told: from st to its close -/
def TLD (D : Mem) (t : List Nat) (s st cl N : Nat) : Prop := D 126 s = nI (t.getD st 0) ∧ D 127 s = nI st ∧ D 128 (3 * s) = nI (dg_ t (st + 1)) ∧ (t.getD st 0 ≠ 120 → D 128 (3 * s + 1) = nI (dg_ t (st + 2))) ∧ (t.getD st 0 = 107 → D 128 (3 * s + 2) = nI (dg_ t (st + 3))) ∧
  (t.getD st 0 = 114 ∨ t.getD st 0 = 109 → ∃ n0, D 129 s = nI n0 ∧ D 130 s = nI (sl t (st + 3) (cl - (st + 3))).length ∧ n0 + (sl t (st + 3) (cl - (st + 3))).length ≤ N ∧ ∀ k, k < (sl t (st + 3) (cl - (st + 3))).length → D 131 (n0 + k) = nI ((sl t (st + 3) (cl - (st + 3))).getD k 0))
def STM (t : List Nat) (s st n : Nat) (D : Mem) (u : Int32) (D' : Mem) : Prop := Fq (STQ s n) D D' ∧
  ((u = 1 ∧ ∃ cl n', TPE D' t (cl + 1) ∧ ALV t (cl + 1) ∧ qs t (cl + 1) = 0 ∧ st + 2 ≤ cl ∧ cl < t.length ∧ t.getD cl 0 = 59 ∧ (∀ k, st ≤ k → k < cl → t.getD k 0 ≠ 59) ∧ n ≤ n' ∧ n' ≤ cl ∧ D' 104 37 = nI n' ∧ TLD D' t s st cl n') ∨
   (u = 0 ∧ ∃ j, D' 104 34 = nI j ∧ ffp t = some j))
/-- d digits of the statement read -/
def SSI (D0 M : Mem) (t : List Nat) (s st n d : Nat) : Prop := Fq (STQ s n) D0 M ∧ TPE M t (st + 1 + d) ∧ M 104 36 = nI (3 * s + d) ∧ M 104 37 = nI n ∧ M 104 35 = nI s ∧ M 126 s = nI (t.getD st 0) ∧ M 127 s = nI st ∧ (∀ k, k < d → M 128 (3 * s + k) = nI (dg_ t (st + 1 + k))) ∧ ∀ k, st ≤ k → k < st + 1 + d → t.getD k 0 ≠ 59
theorem SSI.dig {D0 M : Mem} {t : List Nat} {s st n d : Nat} (h : SSI D0 M t s st n d) (hd : d < 3) (hi : isd t (st + 1 + d) = true) : SSI D0 (rdD M (3 * s + d) (st + 1 + d) (t.getD (st + 1 + d) 0)) t s st n (d + 1) := by
  obtain ⟨h1, h2, h3, h4, h5, h6, h7, h8, h9⟩ := h
  have hf := rdD_fq (D := M) (tg := 3 * s + d) (i := st + 1 + d) (c := t.getD (st + 1 + d) 0)
  have hdb := dig_b (isd_t hi).2
  refine ⟨h1.tr (hf.mono (fun b x hb => by unfold STQ; omega)), rdD_tpe h2 (isd_t hi).1, rdD_at.2.1, ?_, ?_, ?_, ?_, fun k hk => ?_, fun k a b => ?_⟩
  · rw [hf 104 37 (by omega)]; exact h4
  · rw [hf 104 35 (by omega)]; exact h5
  · rw [hf 126 s (by omega)]; exact h6
  · rw [hf 127 s (by omega)]; exact h7
  · by_cases e : k = d
    · subst e; exact rdD_at.1
    · rw [hf 128 (3 * s + k) (by omega)]; exact h8 k (by omega)
  · by_cases e : k = st + 1 + d
    · subst e; omega
    · exact h9 k a (by omega)
theorem SSI.bad {D0 M : Mem} {t : List Nat} {s st n d : Nat} (h : SSI D0 M t s st n d) (hf : ffp t = some (st + 1 + d)) : STM t s st n D0 0 M := ⟨h.1, Or.inr ⟨rfl, _, h.2.1.2.2.1, hf⟩⟩
def stD (D : Mem) (s st : Nat) (c : Int32) : Mem := up2 (up2 (up2 (up2 D 126 s c) 127 s (nI st)) 104 36 (nI (3 * s))) 104 34 (nI (st + 1))
theorem SSI.start {D : Mem} {t : List Nat} {s st n c : Nat} (hT : TPE D t st) (h35 : D 104 35 = nI s) (h37 : D 104 37 = nI n) (hil : st < t.length) (hc : t.getD st 0 = c) (h59 : c ≠ 59) : SSI D (stD D s st (nI c)) t s st n 0 := by
  have hf : Fq (fun b i => (b = 126 ∧ i = s) ∨ (b = 127 ∧ i = s) ∨ (b = 104 ∧ (i = 36 ∨ i = 34))) D (stD D s st (nI c)) := by
    unfold stD
    refine Fq.up' (Fq.up' (Fq.up' (Fq.up' Fq.rf ?_) ?_) ?_) ?_ <;> omega
  refine ⟨hf.mono (fun b x hb => by unfold STQ; omega), hT.fq (hf 104 33 (by omega)) (hf.row (fun j => by omega)) up2_same hil, ?_, (hf 104 37 (by omega)).trans h37, (hf 104 35 (by omega)).trans h35, ?_, ?_, fun k hk => absurd hk (Nat.not_lt_zero _), fun k a b => ?_⟩
  · unfold stD; rw [up2_other (by omega), up2_same]; rfl
  · unfold stD; rw [up2_ne (by omega), up2_ne (by omega), up2_ne (by omega), up2_same, hc]
  · unfold stD; rw [up2_ne (by omega), up2_ne (by omega), up2_same]
  · obtain rfl : k = st := by omega
    rw [hc]; exact h59
theorem STM.fin0 {D0 M : Mem} {t : List Nat} {s st n d : Nat} (h : SSI D0 M t s st n d) (hn : n ≤ st) (hc : (t.getD st 0 = 120 ∧ d = 1) ∨ (t.getD st 0 = 107 ∧ d = 3)) (hA : ALV t (st + 1 + d)) (hq : qs t (st + 1 + d) = 9) (h59 : st + 1 + d < t.length ∧ t.getD (st + 1 + d) 0 = 59) : STM t s st n D0 1 (up2 M 104 34 (nI (st + 1 + d + 1))) := by
  obtain ⟨h1, h2, h3, h4, h5, h6, h7, h8, h9⟩ := h
  have ha := hA.s (r := 0) hq (by rw [h59.2]; rfl) (by decide)
  have u : ∀ b i, b ≠ 104 → up2 M 104 34 (nI (st + 1 + d + 1)) b i = M b i := fun b i hb => congrFun (up2_ne hb) i
  refine ⟨h1.tr (Fq.up (by unfold STQ; omega)), Or.inl ⟨rfl, st + 1 + d, n, h2.fq (up2_other (by omega)) (up2_ne (by omega)) up2_same h59.1, ha.1, ha.2, by omega, h59.1, h59.2, h9, Nat.le_refl _, by omega, (up2_other (by omega)).trans h4, ?_⟩⟩
  refine ⟨(u _ _ (by omega)).trans h6, (u _ _ (by omega)).trans h7, (u _ _ (by omega)).trans (h8 0 (by omega)), fun q => (u _ _ (by omega)).trans ?_, fun q => (u _ _ (by omega)).trans ?_, fun q => ?_⟩
  · exact h8 1 (by omega)
  · exact h8 2 (by omega)
  · omega
theorem STM.fin1 {D0 M M' : Mem} {t : List Nat} {s st n cl : Nat} (h : SSI D0 M t s st n 2) (hc : t.getD st 0 = 114 ∨ t.getD st 0 = 109) (gf : Fq (SGQ n s) M M') (g : SGI M' t n s (st + 3) cl) (g130 : M' 130 s = nI (sl t (st + 3) (cl - (st + 3))).length) (h59 : cl < t.length ∧ t.getD cl 0 = 59) : STM t s st n D0 1 (up2 M' 104 34 (nI (cl + 1))) := by
  obtain ⟨h1, h2, h3, h4, h5, h6, h7, h8, h9⟩ := h
  obtain ⟨g1, g2, g3, g4, g5, g6, g7, g8, g9, g10⟩ := g
  have ha := g2.s (r := 0) g3 (by rw [h59.2]; rfl) (by decide)
  have u : ∀ b i, b ≠ 104 → up2 M' 104 34 (nI (cl + 1)) b i = M' b i := fun b i hb => congrFun (up2_ne hb) i
  refine ⟨(h1.tr (gf.mono (fun b x hb => by unfold SGQ at hb; unfold STQ; omega))).tr (Fq.up (by unfold STQ; omega)), Or.inl ⟨rfl, cl, n + (sl t (st + 3) (cl - (st + 3))).length, g1.fq (up2_other (by omega)) (up2_ne (by omega)) up2_same h59.1, ha.1, ha.2, by omega, h59.1, h59.2, fun k a b => ?_, Nat.le_add_right _ _, g8, (up2_other (by omega)).trans g6, ?_⟩⟩
  · by_cases e : k < st + 3
    · exact h9 k a (by omega)
    · exact g5 k (by omega) b
  · have v : ∀ b i, ¬ SGQ n s b i → b ≠ 104 → up2 M' 104 34 (nI (cl + 1)) b i = M b i := fun b i hb hb2 => (u b i hb2).trans (gf b i hb)
    refine ⟨(v _ _ (by unfold SGQ; omega) (by omega)).trans h6, (v _ _ (by unfold SGQ; omega) (by omega)).trans h7, (v _ _ (by unfold SGQ; omega) (by omega)).trans (h8 0 (by omega)), fun q => (v _ _ (by unfold SGQ; omega) (by omega)).trans (h8 1 (by omega)), fun q => by omega, fun q => ⟨n, (u _ _ (by omega)).trans g10, (u _ _ (by omega)).trans g130, Nat.le_refl _, fun k hk => (u _ _ (by omega)).trans (g7 k hk)⟩⟩
theorem dX8_statement_0 : decode cX8_statement 0 = .ok (.aload_n 0, 1) := by decide +kernel
theorem dX8_statement_1 : decode cX8_statement 1 = .ok (.invokevirtual 217, 3) := by decide +kernel
theorem dX8_statement_4 : decode cX8_statement 4 = .ok (.istore_n 1, 1) := by decide +kernel
theorem dX8_statement_5 : decode cX8_statement 5 = .ok (.iload_n 1, 1) := by decide +kernel
theorem dX8_statement_6 : decode cX8_statement 6 = .ok (.bipush 114, 2) := by decide +kernel
theorem dX8_statement_8 : decode cX8_statement 8 = .ok (.if_icmp .eq 23, 3) := by decide +kernel
theorem dX8_statement_11 : decode cX8_statement 11 = .ok (.iload_n 1, 1) := by decide +kernel
theorem dX8_statement_12 : decode cX8_statement 12 = .ok (.bipush 109, 2) := by decide +kernel
theorem dX8_statement_14 : decode cX8_statement 14 = .ok (.if_icmp .eq 17, 3) := by decide +kernel
theorem dX8_statement_17 : decode cX8_statement 17 = .ok (.iload_n 1, 1) := by decide +kernel
theorem dX8_statement_18 : decode cX8_statement 18 = .ok (.bipush 107, 2) := by decide +kernel
theorem dX8_statement_20 : decode cX8_statement 20 = .ok (.if_icmp .eq 11, 3) := by decide +kernel
theorem dX8_statement_23 : decode cX8_statement 23 = .ok (.iload_n 1, 1) := by decide +kernel
theorem dX8_statement_24 : decode cX8_statement 24 = .ok (.bipush 120, 2) := by decide +kernel
theorem dX8_statement_26 : decode cX8_statement 26 = .ok (.if_icmp .eq 5, 3) := by decide +kernel
theorem dX8_statement_29 : decode cX8_statement 29 = .ok (.iconst 0, 1) := by decide +kernel
theorem dX8_statement_30 : decode cX8_statement 30 = .ok (.ireturn, 1) := by decide +kernel
theorem dX8_statement_31 : decode cX8_statement 31 = .ok (.aload_n 0, 1) := by decide +kernel
theorem dX8_statement_32 : decode cX8_statement 32 = .ok (.getfield 73, 3) := by decide +kernel
theorem dX8_statement_35 : decode cX8_statement 35 = .ok (.aload_n 0, 1) := by decide +kernel
theorem dX8_statement_36 : decode cX8_statement 36 = .ok (.getfield 227, 3) := by decide +kernel
theorem dX8_statement_39 : decode cX8_statement 39 = .ok (.iload_n 1, 1) := by decide +kernel
theorem dX8_statement_40 : decode cX8_statement 40 = .ok (.iastore, 1) := by decide +kernel
theorem dX8_statement_41 : decode cX8_statement 41 = .ok (.aload_n 0, 1) := by decide +kernel
theorem dX8_statement_42 : decode cX8_statement 42 = .ok (.getfield 76, 3) := by decide +kernel
theorem dX8_statement_45 : decode cX8_statement 45 = .ok (.aload_n 0, 1) := by decide +kernel
theorem dX8_statement_46 : decode cX8_statement 46 = .ok (.getfield 227, 3) := by decide +kernel
theorem dX8_statement_49 : decode cX8_statement 49 = .ok (.aload_n 0, 1) := by decide +kernel
theorem dX8_statement_50 : decode cX8_statement 50 = .ok (.getfield 214, 3) := by decide +kernel
theorem dX8_statement_53 : decode cX8_statement 53 = .ok (.iastore, 1) := by decide +kernel
theorem dX8_statement_54 : decode cX8_statement 54 = .ok (.aload_n 0, 1) := by decide +kernel
theorem dX8_statement_55 : decode cX8_statement 55 = .ok (.iconst 3, 1) := by decide +kernel
theorem dX8_statement_56 : decode cX8_statement 56 = .ok (.aload_n 0, 1) := by decide +kernel
theorem dX8_statement_57 : decode cX8_statement 57 = .ok (.getfield 227, 3) := by decide +kernel
theorem dX8_statement_60 : decode cX8_statement 60 = .ok (.imul, 1) := by decide +kernel
theorem dX8_statement_61 : decode cX8_statement 61 = .ok (.putfield 221, 3) := by decide +kernel
theorem dX8_statement_64 : decode cX8_statement 64 = .ok (.aload_n 0, 1) := by decide +kernel
theorem dX8_statement_65 : decode cX8_statement 65 = .ok (.dup, 1) := by decide +kernel
theorem dX8_statement_66 : decode cX8_statement 66 = .ok (.getfield 214, 3) := by decide +kernel
theorem dX8_statement_69 : decode cX8_statement 69 = .ok (.iconst 1, 1) := by decide +kernel
theorem dX8_statement_70 : decode cX8_statement 70 = .ok (.iadd, 1) := by decide +kernel
theorem dX8_statement_71 : decode cX8_statement 71 = .ok (.putfield 214, 3) := by decide +kernel
theorem dX8_statement_74 : decode cX8_statement 74 = .ok (.aload_n 0, 1) := by decide +kernel
theorem dX8_statement_75 : decode cX8_statement 75 = .ok (.invokevirtual 234, 3) := by decide +kernel
theorem dX8_statement_78 : decode cX8_statement 78 = .ok (.ifCond .ne 5, 3) := by decide +kernel
theorem dX8_statement_81 : decode cX8_statement 81 = .ok (.iconst 0, 1) := by decide +kernel
theorem dX8_statement_82 : decode cX8_statement 82 = .ok (.ireturn, 1) := by decide +kernel
theorem dX8_statement_83 : decode cX8_statement 83 = .ok (.iload_n 1, 1) := by decide +kernel
theorem dX8_statement_84 : decode cX8_statement 84 = .ok (.bipush 120, 2) := by decide +kernel
theorem dX8_statement_86 : decode cX8_statement 86 = .ok (.if_icmp .eq 12, 3) := by decide +kernel
theorem dX8_statement_89 : decode cX8_statement 89 = .ok (.aload_n 0, 1) := by decide +kernel
theorem dX8_statement_90 : decode cX8_statement 90 = .ok (.invokevirtual 234, 3) := by decide +kernel
theorem dX8_statement_93 : decode cX8_statement 93 = .ok (.ifCond .ne 5, 3) := by decide +kernel
theorem dX8_statement_96 : decode cX8_statement 96 = .ok (.iconst 0, 1) := by decide +kernel
theorem dX8_statement_97 : decode cX8_statement 97 = .ok (.ireturn, 1) := by decide +kernel
theorem dX8_statement_98 : decode cX8_statement 98 = .ok (.iload_n 1, 1) := by decide +kernel
theorem dX8_statement_99 : decode cX8_statement 99 = .ok (.bipush 107, 2) := by decide +kernel
theorem dX8_statement_101 : decode cX8_statement 101 = .ok (.if_icmp .ne 12, 3) := by decide +kernel
theorem dX8_statement_104 : decode cX8_statement 104 = .ok (.aload_n 0, 1) := by decide +kernel
theorem dX8_statement_105 : decode cX8_statement 105 = .ok (.invokevirtual 234, 3) := by decide +kernel
theorem dX8_statement_108 : decode cX8_statement 108 = .ok (.ifCond .ne 5, 3) := by decide +kernel
theorem dX8_statement_111 : decode cX8_statement 111 = .ok (.iconst 0, 1) := by decide +kernel
theorem dX8_statement_112 : decode cX8_statement 112 = .ok (.ireturn, 1) := by decide +kernel
theorem dX8_statement_113 : decode cX8_statement 113 = .ok (.iload_n 1, 1) := by decide +kernel
theorem dX8_statement_114 : decode cX8_statement 114 = .ok (.bipush 114, 2) := by decide +kernel
theorem dX8_statement_116 : decode cX8_statement 116 = .ok (.if_icmp .eq 9, 3) := by decide +kernel
theorem dX8_statement_119 : decode cX8_statement 119 = .ok (.iload_n 1, 1) := by decide +kernel
theorem dX8_statement_120 : decode cX8_statement 120 = .ok (.bipush 109, 2) := by decide +kernel
theorem dX8_statement_122 : decode cX8_statement 122 = .ok (.if_icmp .ne 12, 3) := by decide +kernel
theorem dX8_statement_125 : decode cX8_statement 125 = .ok (.aload_n 0, 1) := by decide +kernel
theorem dX8_statement_126 : decode cX8_statement 126 = .ok (.invokevirtual 237, 3) := by decide +kernel
theorem dX8_statement_129 : decode cX8_statement 129 = .ok (.ifCond .ne 5, 3) := by decide +kernel
theorem dX8_statement_132 : decode cX8_statement 132 = .ok (.iconst 0, 1) := by decide +kernel
theorem dX8_statement_133 : decode cX8_statement 133 = .ok (.ireturn, 1) := by decide +kernel
theorem dX8_statement_134 : decode cX8_statement 134 = .ok (.aload_n 0, 1) := by decide +kernel
theorem dX8_statement_135 : decode cX8_statement 135 = .ok (.invokevirtual 217, 3) := by decide +kernel
theorem dX8_statement_138 : decode cX8_statement 138 = .ok (.bipush 59, 2) := by decide +kernel
theorem dX8_statement_140 : decode cX8_statement 140 = .ok (.if_icmp .eq 5, 3) := by decide +kernel
theorem dX8_statement_143 : decode cX8_statement 143 = .ok (.iconst 0, 1) := by decide +kernel
theorem dX8_statement_144 : decode cX8_statement 144 = .ok (.ireturn, 1) := by decide +kernel
theorem dX8_statement_145 : decode cX8_statement 145 = .ok (.aload_n 0, 1) := by decide +kernel
theorem dX8_statement_146 : decode cX8_statement 146 = .ok (.dup, 1) := by decide +kernel
theorem dX8_statement_147 : decode cX8_statement 147 = .ok (.getfield 214, 3) := by decide +kernel
theorem dX8_statement_150 : decode cX8_statement 150 = .ok (.iconst 1, 1) := by decide +kernel
theorem dX8_statement_151 : decode cX8_statement 151 = .ok (.iadd, 1) := by decide +kernel
theorem dX8_statement_152 : decode cX8_statement 152 = .ok (.putfield 214, 3) := by decide +kernel
theorem dX8_statement_155 : decode cX8_statement 155 = .ok (.iconst 1, 1) := by decide +kernel
theorem dX8_statement_156 : decode cX8_statement 156 = .ok (.ireturn, 1) := by decide +kernel
theorem sp_X8_statement {t : List Nat} {s st n : Nat} {D : Mem} (hT : TPE D t st) (hA : ALV t st) (hq : qs t st = 0) (hst : st < t.length ∨ t.length = 0) (h35 : D 104 35 = nI s) (hs : 3 * s ≤ st) (h37 : D 104 37 = nI n) (hn : n ≤ st) : Rix 4 j_X8_statement [.ref 104] D (fun u D' => STM t s st n D u D') := by
  refine E.start 1 (ls := [some (.ref 104), none]) (by decide +kernel) (Nat.le_of_ble_eq_true rfl) rfl (Nat.le_refl _) (Nat.le_refl _) ?_
  refine X_aload_n (nx := 1) dX8_statement_0 rfl rfl rfl ?_
  refine Y_Vi0 (nx := 4) dX8_statement_1 rfl ml_RX8_217 kj_X8_sign kv_X8_sign (sp_X8_sign hT) (by first | assumption | rfl | decide | omega) (by first | assumption | rfl | decide | omega) (by decide) rfl (by first | decide | omega) (by exact Nat.le_of_ble_eq_true rfl) ?_
  have h96 := hT.2.2.2.2.1
  have hle := hT.2.2.2.1
  by_cases e114 : st < t.length ∧ t.getD st 0 = 114
  · obtain ⟨hil, e114⟩ := e114
    have hs33 : s < 32 := (by omega)
    have A0 : ALV t (st + 1 + 0) ∧ qs t (st + 1 + 0) = 1 := hA.s hq (by rw [e114]; rfl) (by decide)
    refine X_top (y := 114) (by rw [sgI_y hil, e114]; rfl) ?_
    refine X_istore_n (i := 1) (nx := 5) dX8_statement_4 rfl rfl (by decide) rfl (st_s (st_0)) ?_
    refine X_iload_n (nx := 6) dX8_statement_5 rfl rfl rfl ?_
    refine X_bipush (v := 114) (nx := 8) dX8_statement_6 rfl rfl ?_
    refine X_icmp_eq (tgt := 31) (nx := 11) dX8_statement_8 rfl rfl (fun h8 => ?_) (fun h8 => ?_)
    · skip
      refine X_aload_n (nx := 32) dX8_statement_31 rfl rfl rfl ?_
      refine M_getP (nx := 35) dX8_statement_32 rfl fl_RX8_73 rfl (by first | assumption | rfl | decide | omega) (by first | assumption | rfl | decide | omega) (by first | assumption | rfl | decide | omega) ?_
      refine X_aload_n (nx := 36) dX8_statement_35 rfl rfl rfl ?_
      refine M_getI (nx := 39) dX8_statement_36 rfl fl_RX8_227 rfl (by first | assumption | rfl | decide | omega) (by first | assumption | rfl | decide | omega) ?_
      refine X_top (h35) ?_
      refine X_iload_n (nx := 40) dX8_statement_39 rfl rfl rfl ?_
      refine M_st (a := 126) (L := 33) (nx := 41) dX8_statement_40 rfl (by decide) (by decide) rfl (by decide) (by omega) ?_
      refine X_aload_n (nx := 42) dX8_statement_41 rfl rfl rfl ?_
      refine M_getP (nx := 45) dX8_statement_42 rfl fl_RX8_76 rfl (by first | assumption | rfl | decide | omega) (by first | assumption | rfl | decide | omega) (by first | assumption | rfl | decide | omega) ?_
      refine X_aload_n (nx := 46) dX8_statement_45 rfl rfl rfl ?_
      refine M_getI (nx := 49) dX8_statement_46 rfl fl_RX8_227 rfl (by first | assumption | rfl | decide | omega) (by first | assumption | rfl | decide | omega) ?_
      refine X_top (h35) ?_
      refine X_aload_n (nx := 50) dX8_statement_49 rfl rfl rfl ?_
      refine M_getI (nx := 53) dX8_statement_50 rfl fl_RX8_214 rfl (by first | assumption | rfl | decide | omega) (by first | assumption | rfl | decide | omega) ?_
      refine X_top (hT.2.2.1) ?_
      refine M_st (a := 127) (L := 33) (nx := 54) dX8_statement_53 rfl (by decide) (by decide) rfl (by decide) (by omega) ?_
      refine X_aload_n (nx := 55) dX8_statement_54 rfl rfl rfl ?_
      refine X_iconst (v := nI 3) (nx := 56) dX8_statement_55 rfl rfl ?_
      refine X_aload_n (nx := 57) dX8_statement_56 rfl rfl rfl ?_
      refine M_getI (nx := 60) dX8_statement_57 rfl fl_RX8_227 rfl (by first | assumption | rfl | decide | omega) (by first | assumption | rfl | decide | omega) ?_
      refine X_top (h35) ?_
      refine X_imul (nx := 61) dX8_statement_60 rfl ?_
      refine X_top (mul_nI) ?_
      refine M_putI (nx := 64) dX8_statement_61 rfl fl_RX8_221 rfl rfl (by first | assumption | rfl | decide | omega) (by first | assumption | rfl | decide | omega) ?_
      refine X_aload_n (nx := 65) dX8_statement_64 rfl rfl rfl ?_
      refine X_dup (nx := 66) dX8_statement_65 rfl rfl ?_
      refine M_getI (nx := 69) dX8_statement_66 rfl fl_RX8_214 rfl (by first | assumption | rfl | decide | omega) (by first | assumption | rfl | decide | omega) ?_
      refine X_top (hT.2.2.1) ?_
      refine X_iconst (v := 1) (nx := 70) dX8_statement_69 rfl rfl ?_
      refine X_iadd (nx := 71) dX8_statement_70 rfl ?_
      refine X_top (nI_1 _) ?_
      refine M_putI (nx := 74) dX8_statement_71 rfl fl_RX8_214 rfl rfl (by first | assumption | rfl | decide | omega) (by first | assumption | rfl | decide | omega) ?_
      have S0 : SSI D (stD D s st (nI 114)) t s st n 0 := SSI.start hT h35 h37 hil e114 (by decide)
      refine X_aload_n (nx := 75) dX8_statement_74 rfl rfl rfl ?_
      refine Z_Vi0 (nx := 78) dX8_statement_75 rfl ml_RX8_234 kj_X8_readsDigit kv_X8_readsDigit (sp_X8_readsDigit S0.2.1 S0.2.2.1 (by omega)) (by first | assumption | rfl | decide | omega) (by first | assumption | rfl | decide | omega) (by decide) rfl (by first | decide | omega) (by exact Nat.le_of_ble_eq_true rfl) (fun u75 D75 g75 => ?_)
      refine X_if_ne (tgt := 83) (nx := 81) dX8_statement_78 rfl rfl (fun h78 => ?_) (fun h78 => ?_)
      · skip
        obtain ⟨i0, e0⟩ := g75.y h78
        subst e0
        have S1 := S0.dig (by omega) i0
        have A1 := dgY (r := 2) A0.1 A0.2 (fun _ => rfl) (by decide) i0
        refine X_iload_n (nx := 84) dX8_statement_83 rfl rfl rfl ?_
        refine X_bipush (v := 120) (nx := 86) dX8_statement_84 rfl rfl ?_
        refine X_icmp_eq (tgt := 98) (nx := 89) dX8_statement_86 rfl rfl (fun h86 => ?_) (fun h86 => ?_)
        · exact absurd h86 (by decide)
        · skip
          refine X_aload_n (nx := 90) dX8_statement_89 rfl rfl rfl ?_
          refine Z_Vi0 (nx := 93) dX8_statement_90 rfl ml_RX8_234 kj_X8_readsDigit kv_X8_readsDigit (sp_X8_readsDigit S1.2.1 S1.2.2.1 (by omega)) (by first | assumption | rfl | decide | omega) (by first | assumption | rfl | decide | omega) (by decide) rfl (by first | decide | omega) (by exact Nat.le_of_ble_eq_true rfl) (fun u90 D90 g90 => ?_)
          refine X_if_ne (tgt := 98) (nx := 96) dX8_statement_93 rfl rfl (fun h93 => ?_) (fun h93 => ?_)
          · skip
            obtain ⟨i1, e1⟩ := g90.y h93
            subst e1
            have S2 := S1.dig (by omega) i1
            have A2 := dgY (r := 3) A1.1 A1.2 (fun _ => rfl) (by decide) i1
            refine X_iload_n (nx := 99) dX8_statement_98 rfl rfl rfl ?_
            refine X_bipush (v := 107) (nx := 101) dX8_statement_99 rfl rfl ?_
            refine X_icmp_ne (tgt := 113) (nx := 104) dX8_statement_101 rfl rfl (fun h101 => ?_) (fun h101 => ?_)
            · skip
              refine X_iload_n (nx := 114) dX8_statement_113 rfl rfl rfl ?_
              refine X_bipush (v := 114) (nx := 116) dX8_statement_114 rfl rfl ?_
              refine X_icmp_eq (tgt := 125) (nx := 119) dX8_statement_116 rfl rfl (fun h116 => ?_) (fun h116 => ?_)
              · skip
                refine X_aload_n (nx := 126) dX8_statement_125 rfl rfl rfl ?_
                refine Z_Vi0 (nx := 129) dX8_statement_126 rfl ml_RX8_237 kj_X8_readsSegments kv_X8_readsSegments (sp_X8_readsSegments S2.2.1 A2.1 A2.2 S2.2.2.2.1 (by omega) S2.2.2.2.2.1 (by omega)) (by first | assumption | rfl | decide | omega) (by first | assumption | rfl | decide | omega) (by decide) rfl (by first | decide | omega) (by exact Nat.le_of_ble_eq_true rfl) (fun u126 D126 g126 => ?_)
                refine X_if_ne (tgt := 134) (nx := 132) dX8_statement_129 rfl rfl (fun h129 => ?_) (fun h129 => ?_)
                · skip
                  obtain ⟨gf, g⟩ := g126
                  rcases g with ⟨_, cl, g1, g2, g3⟩ | ⟨z, _⟩
                  rotate_left
                  · exact absurd z h129
                  refine X_aload_n (nx := 135) dX8_statement_134 rfl rfl rfl ?_
                  refine Y_Vi0 (nx := 138) dX8_statement_135 rfl ml_RX8_217 kj_X8_sign kv_X8_sign (sp_X8_sign g1.1) (by first | assumption | rfl | decide | omega) (by first | assumption | rfl | decide | omega) (by decide) rfl (by first | decide | omega) (by exact Nat.le_of_ble_eq_true rfl) ?_
                  refine X_bipush (v := nI 59) (nx := 140) dX8_statement_138 rfl rfl ?_
                  refine X_icmp_eq (tgt := 145) (nx := 143) dX8_statement_140 rfl rfl (fun h140 => ?_) (fun h140 => ?_)
                  · skip
                    have h59 := sg_eq g1.1 h140 (by omega)
                    refine X_aload_n (nx := 146) dX8_statement_145 rfl rfl rfl ?_
                    refine X_dup (nx := 147) dX8_statement_146 rfl rfl ?_
                    refine M_getI (nx := 150) dX8_statement_147 rfl fl_RX8_214 rfl (by first | assumption | rfl | decide | omega) (by first | assumption | rfl | decide | omega) ?_
                    refine X_top (g1.1.2.2.1) ?_
                    refine X_iconst (v := 1) (nx := 151) dX8_statement_150 rfl rfl ?_
                    refine X_iadd (nx := 152) dX8_statement_151 rfl ?_
                    refine X_top (nI_1 _) ?_
                    refine M_putI (nx := 155) dX8_statement_152 rfl fl_RX8_214 rfl rfl (by first | assumption | rfl | decide | omega) (by first | assumption | rfl | decide | omega) ?_
                    refine X_iconst (v := 1) (nx := 156) dX8_statement_155 rfl rfl ?_
                    exact Z_reti dX8_statement_156 (Or.inr ⟨rfl, by first | exact Or.inl rfl | exact Or.inr rfl | exact b2i_01 _ | assumption⟩) (STM.fin1 S2 (by omega) gf g1 g3 h59)
                  · skip
                    refine X_iconst (v := 0) (nx := 144) dX8_statement_143 rfl rfl ?_
                    exact Z_reti dX8_statement_144 (Or.inr ⟨rfl, by first | exact Or.inl rfl | exact Or.inr rfl | exact b2i_01 _ | assumption⟩) (by
                      refine ⟨S2.1.tr (gf.mono (fun b x hb => by unfold SGQ at hb; unfold STQ; omega)), Or.inr ⟨rfl, cl, g1.1.2.2.1, g1.2.1.fail g1.1.2.2.2.1 g1.2.2.1 ?_⟩⟩
                      by_cases hl : cl < t.length
                      · exact Or.inl ⟨hl, by rw [show ∀ c, dl 3 c = if c = 47 then 4 else if c = 59 then 0 else 10 from fun _ => rfl, if_neg (sg_ne hl g2), if_neg (sg_ne hl h140)]⟩
                      · exact Or.inr ⟨by have := g1.1.2.2.2.1; omega, Or.inl (by decide)⟩)
                · skip
                  refine X_iconst (v := 0) (nx := 133) dX8_statement_132 rfl rfl ?_
                  exact Z_reti dX8_statement_133 (Or.inr ⟨rfl, by first | exact Or.inl rfl | exact Or.inr rfl | exact b2i_01 _ | assumption⟩) (by
                    obtain ⟨gf, g⟩ := g126
                    rcases g with ⟨e, _⟩ | ⟨_, z⟩
                    · exact absurd (e.symm.trans h129) (by decide)
                    · exact ⟨S2.1.tr (gf.mono (fun b x hb => by unfold SGQ at hb; unfold STQ; omega)), Or.inr ⟨rfl, z⟩⟩)
              · exact absurd h116 (by decide)
            · exact absurd h101 (by decide)
          · skip
            obtain ⟨i1, e1⟩ := g90.n h93
            subst e1
            refine X_iconst (v := 0) (nx := 97) dX8_statement_96 rfl rfl ?_
            exact Z_reti dX8_statement_97 (Or.inr ⟨rfl, by first | exact Or.inl rfl | exact Or.inr rfl | exact b2i_01 _ | assumption⟩) (S1.bad (dgN (r := 3) A1.1 S1.2.1.2.2.2.1 A1.2 (fun _ => rfl) (by decide) i1))
      · skip
        obtain ⟨i0, e0⟩ := g75.n h78
        subst e0
        refine X_iconst (v := 0) (nx := 82) dX8_statement_81 rfl rfl ?_
        exact Z_reti dX8_statement_82 (Or.inr ⟨rfl, by first | exact Or.inl rfl | exact Or.inr rfl | exact b2i_01 _ | assumption⟩) (S0.bad (dgN (r := 2) A0.1 S0.2.1.2.2.2.1 A0.2 (fun _ => rfl) (by decide) i0))
    · exact absurd h8 (by decide)
  · skip
    by_cases e109 : st < t.length ∧ t.getD st 0 = 109
    · obtain ⟨hil, e109⟩ := e109
      have hs33 : s < 32 := (by omega)
      have A0 : ALV t (st + 1 + 0) ∧ qs t (st + 1 + 0) = 1 := hA.s hq (by rw [e109]; rfl) (by decide)
      refine X_top (y := 109) (by rw [sgI_y hil, e109]; rfl) ?_
      refine X_istore_n (i := 1) (nx := 5) dX8_statement_4 rfl rfl (by decide) rfl (st_s (st_0)) ?_
      refine X_iload_n (nx := 6) dX8_statement_5 rfl rfl rfl ?_
      refine X_bipush (v := 114) (nx := 8) dX8_statement_6 rfl rfl ?_
      refine X_icmp_eq (tgt := 31) (nx := 11) dX8_statement_8 rfl rfl (fun h8 => ?_) (fun h8 => ?_)
      · exact absurd h8 (by decide)
      · skip
        refine X_iload_n (nx := 12) dX8_statement_11 rfl rfl rfl ?_
        refine X_bipush (v := 109) (nx := 14) dX8_statement_12 rfl rfl ?_
        refine X_icmp_eq (tgt := 31) (nx := 17) dX8_statement_14 rfl rfl (fun h14 => ?_) (fun h14 => ?_)
        · skip
          refine X_aload_n (nx := 32) dX8_statement_31 rfl rfl rfl ?_
          refine M_getP (nx := 35) dX8_statement_32 rfl fl_RX8_73 rfl (by first | assumption | rfl | decide | omega) (by first | assumption | rfl | decide | omega) (by first | assumption | rfl | decide | omega) ?_
          refine X_aload_n (nx := 36) dX8_statement_35 rfl rfl rfl ?_
          refine M_getI (nx := 39) dX8_statement_36 rfl fl_RX8_227 rfl (by first | assumption | rfl | decide | omega) (by first | assumption | rfl | decide | omega) ?_
          refine X_top (h35) ?_
          refine X_iload_n (nx := 40) dX8_statement_39 rfl rfl rfl ?_
          refine M_st (a := 126) (L := 33) (nx := 41) dX8_statement_40 rfl (by decide) (by decide) rfl (by decide) (by omega) ?_
          refine X_aload_n (nx := 42) dX8_statement_41 rfl rfl rfl ?_
          refine M_getP (nx := 45) dX8_statement_42 rfl fl_RX8_76 rfl (by first | assumption | rfl | decide | omega) (by first | assumption | rfl | decide | omega) (by first | assumption | rfl | decide | omega) ?_
          refine X_aload_n (nx := 46) dX8_statement_45 rfl rfl rfl ?_
          refine M_getI (nx := 49) dX8_statement_46 rfl fl_RX8_227 rfl (by first | assumption | rfl | decide | omega) (by first | assumption | rfl | decide | omega) ?_
          refine X_top (h35) ?_
          refine X_aload_n (nx := 50) dX8_statement_49 rfl rfl rfl ?_
          refine M_getI (nx := 53) dX8_statement_50 rfl fl_RX8_214 rfl (by first | assumption | rfl | decide | omega) (by first | assumption | rfl | decide | omega) ?_
          refine X_top (hT.2.2.1) ?_
          refine M_st (a := 127) (L := 33) (nx := 54) dX8_statement_53 rfl (by decide) (by decide) rfl (by decide) (by omega) ?_
          refine X_aload_n (nx := 55) dX8_statement_54 rfl rfl rfl ?_
          refine X_iconst (v := nI 3) (nx := 56) dX8_statement_55 rfl rfl ?_
          refine X_aload_n (nx := 57) dX8_statement_56 rfl rfl rfl ?_
          refine M_getI (nx := 60) dX8_statement_57 rfl fl_RX8_227 rfl (by first | assumption | rfl | decide | omega) (by first | assumption | rfl | decide | omega) ?_
          refine X_top (h35) ?_
          refine X_imul (nx := 61) dX8_statement_60 rfl ?_
          refine X_top (mul_nI) ?_
          refine M_putI (nx := 64) dX8_statement_61 rfl fl_RX8_221 rfl rfl (by first | assumption | rfl | decide | omega) (by first | assumption | rfl | decide | omega) ?_
          refine X_aload_n (nx := 65) dX8_statement_64 rfl rfl rfl ?_
          refine X_dup (nx := 66) dX8_statement_65 rfl rfl ?_
          refine M_getI (nx := 69) dX8_statement_66 rfl fl_RX8_214 rfl (by first | assumption | rfl | decide | omega) (by first | assumption | rfl | decide | omega) ?_
          refine X_top (hT.2.2.1) ?_
          refine X_iconst (v := 1) (nx := 70) dX8_statement_69 rfl rfl ?_
          refine X_iadd (nx := 71) dX8_statement_70 rfl ?_
          refine X_top (nI_1 _) ?_
          refine M_putI (nx := 74) dX8_statement_71 rfl fl_RX8_214 rfl rfl (by first | assumption | rfl | decide | omega) (by first | assumption | rfl | decide | omega) ?_
          have S0 : SSI D (stD D s st (nI 109)) t s st n 0 := SSI.start hT h35 h37 hil e109 (by decide)
          refine X_aload_n (nx := 75) dX8_statement_74 rfl rfl rfl ?_
          refine Z_Vi0 (nx := 78) dX8_statement_75 rfl ml_RX8_234 kj_X8_readsDigit kv_X8_readsDigit (sp_X8_readsDigit S0.2.1 S0.2.2.1 (by omega)) (by first | assumption | rfl | decide | omega) (by first | assumption | rfl | decide | omega) (by decide) rfl (by first | decide | omega) (by exact Nat.le_of_ble_eq_true rfl) (fun u75 D75 g75 => ?_)
          refine X_if_ne (tgt := 83) (nx := 81) dX8_statement_78 rfl rfl (fun h78 => ?_) (fun h78 => ?_)
          · skip
            obtain ⟨i0, e0⟩ := g75.y h78
            subst e0
            have S1 := S0.dig (by omega) i0
            have A1 := dgY (r := 2) A0.1 A0.2 (fun _ => rfl) (by decide) i0
            refine X_iload_n (nx := 84) dX8_statement_83 rfl rfl rfl ?_
            refine X_bipush (v := 120) (nx := 86) dX8_statement_84 rfl rfl ?_
            refine X_icmp_eq (tgt := 98) (nx := 89) dX8_statement_86 rfl rfl (fun h86 => ?_) (fun h86 => ?_)
            · exact absurd h86 (by decide)
            · skip
              refine X_aload_n (nx := 90) dX8_statement_89 rfl rfl rfl ?_
              refine Z_Vi0 (nx := 93) dX8_statement_90 rfl ml_RX8_234 kj_X8_readsDigit kv_X8_readsDigit (sp_X8_readsDigit S1.2.1 S1.2.2.1 (by omega)) (by first | assumption | rfl | decide | omega) (by first | assumption | rfl | decide | omega) (by decide) rfl (by first | decide | omega) (by exact Nat.le_of_ble_eq_true rfl) (fun u90 D90 g90 => ?_)
              refine X_if_ne (tgt := 98) (nx := 96) dX8_statement_93 rfl rfl (fun h93 => ?_) (fun h93 => ?_)
              · skip
                obtain ⟨i1, e1⟩ := g90.y h93
                subst e1
                have S2 := S1.dig (by omega) i1
                have A2 := dgY (r := 3) A1.1 A1.2 (fun _ => rfl) (by decide) i1
                refine X_iload_n (nx := 99) dX8_statement_98 rfl rfl rfl ?_
                refine X_bipush (v := 107) (nx := 101) dX8_statement_99 rfl rfl ?_
                refine X_icmp_ne (tgt := 113) (nx := 104) dX8_statement_101 rfl rfl (fun h101 => ?_) (fun h101 => ?_)
                · skip
                  refine X_iload_n (nx := 114) dX8_statement_113 rfl rfl rfl ?_
                  refine X_bipush (v := 114) (nx := 116) dX8_statement_114 rfl rfl ?_
                  refine X_icmp_eq (tgt := 125) (nx := 119) dX8_statement_116 rfl rfl (fun h116 => ?_) (fun h116 => ?_)
                  · exact absurd h116 (by decide)
                  · skip
                    refine X_iload_n (nx := 120) dX8_statement_119 rfl rfl rfl ?_
                    refine X_bipush (v := 109) (nx := 122) dX8_statement_120 rfl rfl ?_
                    refine X_icmp_ne (tgt := 134) (nx := 125) dX8_statement_122 rfl rfl (fun h122 => ?_) (fun h122 => ?_)
                    · exact absurd h122 (by decide)
                    · skip
                      refine X_aload_n (nx := 126) dX8_statement_125 rfl rfl rfl ?_
                      refine Z_Vi0 (nx := 129) dX8_statement_126 rfl ml_RX8_237 kj_X8_readsSegments kv_X8_readsSegments (sp_X8_readsSegments S2.2.1 A2.1 A2.2 S2.2.2.2.1 (by omega) S2.2.2.2.2.1 (by omega)) (by first | assumption | rfl | decide | omega) (by first | assumption | rfl | decide | omega) (by decide) rfl (by first | decide | omega) (by exact Nat.le_of_ble_eq_true rfl) (fun u126 D126 g126 => ?_)
                      refine X_if_ne (tgt := 134) (nx := 132) dX8_statement_129 rfl rfl (fun h129 => ?_) (fun h129 => ?_)
                      · skip
                        obtain ⟨gf, g⟩ := g126
                        rcases g with ⟨_, cl, g1, g2, g3⟩ | ⟨z, _⟩
                        rotate_left
                        · exact absurd z h129
                        refine X_aload_n (nx := 135) dX8_statement_134 rfl rfl rfl ?_
                        refine Y_Vi0 (nx := 138) dX8_statement_135 rfl ml_RX8_217 kj_X8_sign kv_X8_sign (sp_X8_sign g1.1) (by first | assumption | rfl | decide | omega) (by first | assumption | rfl | decide | omega) (by decide) rfl (by first | decide | omega) (by exact Nat.le_of_ble_eq_true rfl) ?_
                        refine X_bipush (v := nI 59) (nx := 140) dX8_statement_138 rfl rfl ?_
                        refine X_icmp_eq (tgt := 145) (nx := 143) dX8_statement_140 rfl rfl (fun h140 => ?_) (fun h140 => ?_)
                        · skip
                          have h59 := sg_eq g1.1 h140 (by omega)
                          refine X_aload_n (nx := 146) dX8_statement_145 rfl rfl rfl ?_
                          refine X_dup (nx := 147) dX8_statement_146 rfl rfl ?_
                          refine M_getI (nx := 150) dX8_statement_147 rfl fl_RX8_214 rfl (by first | assumption | rfl | decide | omega) (by first | assumption | rfl | decide | omega) ?_
                          refine X_top (g1.1.2.2.1) ?_
                          refine X_iconst (v := 1) (nx := 151) dX8_statement_150 rfl rfl ?_
                          refine X_iadd (nx := 152) dX8_statement_151 rfl ?_
                          refine X_top (nI_1 _) ?_
                          refine M_putI (nx := 155) dX8_statement_152 rfl fl_RX8_214 rfl rfl (by first | assumption | rfl | decide | omega) (by first | assumption | rfl | decide | omega) ?_
                          refine X_iconst (v := 1) (nx := 156) dX8_statement_155 rfl rfl ?_
                          exact Z_reti dX8_statement_156 (Or.inr ⟨rfl, by first | exact Or.inl rfl | exact Or.inr rfl | exact b2i_01 _ | assumption⟩) (STM.fin1 S2 (by omega) gf g1 g3 h59)
                        · skip
                          refine X_iconst (v := 0) (nx := 144) dX8_statement_143 rfl rfl ?_
                          exact Z_reti dX8_statement_144 (Or.inr ⟨rfl, by first | exact Or.inl rfl | exact Or.inr rfl | exact b2i_01 _ | assumption⟩) (by
                            refine ⟨S2.1.tr (gf.mono (fun b x hb => by unfold SGQ at hb; unfold STQ; omega)), Or.inr ⟨rfl, cl, g1.1.2.2.1, g1.2.1.fail g1.1.2.2.2.1 g1.2.2.1 ?_⟩⟩
                            by_cases hl : cl < t.length
                            · exact Or.inl ⟨hl, by rw [show ∀ c, dl 3 c = if c = 47 then 4 else if c = 59 then 0 else 10 from fun _ => rfl, if_neg (sg_ne hl g2), if_neg (sg_ne hl h140)]⟩
                            · exact Or.inr ⟨by have := g1.1.2.2.2.1; omega, Or.inl (by decide)⟩)
                      · skip
                        refine X_iconst (v := 0) (nx := 133) dX8_statement_132 rfl rfl ?_
                        exact Z_reti dX8_statement_133 (Or.inr ⟨rfl, by first | exact Or.inl rfl | exact Or.inr rfl | exact b2i_01 _ | assumption⟩) (by
                          obtain ⟨gf, g⟩ := g126
                          rcases g with ⟨e, _⟩ | ⟨_, z⟩
                          · exact absurd (e.symm.trans h129) (by decide)
                          · exact ⟨S2.1.tr (gf.mono (fun b x hb => by unfold SGQ at hb; unfold STQ; omega)), Or.inr ⟨rfl, z⟩⟩)
                · exact absurd h101 (by decide)
              · skip
                obtain ⟨i1, e1⟩ := g90.n h93
                subst e1
                refine X_iconst (v := 0) (nx := 97) dX8_statement_96 rfl rfl ?_
                exact Z_reti dX8_statement_97 (Or.inr ⟨rfl, by first | exact Or.inl rfl | exact Or.inr rfl | exact b2i_01 _ | assumption⟩) (S1.bad (dgN (r := 3) A1.1 S1.2.1.2.2.2.1 A1.2 (fun _ => rfl) (by decide) i1))
          · skip
            obtain ⟨i0, e0⟩ := g75.n h78
            subst e0
            refine X_iconst (v := 0) (nx := 82) dX8_statement_81 rfl rfl ?_
            exact Z_reti dX8_statement_82 (Or.inr ⟨rfl, by first | exact Or.inl rfl | exact Or.inr rfl | exact b2i_01 _ | assumption⟩) (S0.bad (dgN (r := 2) A0.1 S0.2.1.2.2.2.1 A0.2 (fun _ => rfl) (by decide) i0))
        · exact absurd h14 (by decide)
    · skip
      by_cases e107 : st < t.length ∧ t.getD st 0 = 107
      · obtain ⟨hil, e107⟩ := e107
        have hs33 : s < 32 := (by omega)
        have A0 : ALV t (st + 1 + 0) ∧ qs t (st + 1 + 0) = 6 := hA.s hq (by rw [e107]; rfl) (by decide)
        refine X_top (y := 107) (by rw [sgI_y hil, e107]; rfl) ?_
        refine X_istore_n (i := 1) (nx := 5) dX8_statement_4 rfl rfl (by decide) rfl (st_s (st_0)) ?_
        refine X_iload_n (nx := 6) dX8_statement_5 rfl rfl rfl ?_
        refine X_bipush (v := 114) (nx := 8) dX8_statement_6 rfl rfl ?_
        refine X_icmp_eq (tgt := 31) (nx := 11) dX8_statement_8 rfl rfl (fun h8 => ?_) (fun h8 => ?_)
        · exact absurd h8 (by decide)
        · skip
          refine X_iload_n (nx := 12) dX8_statement_11 rfl rfl rfl ?_
          refine X_bipush (v := 109) (nx := 14) dX8_statement_12 rfl rfl ?_
          refine X_icmp_eq (tgt := 31) (nx := 17) dX8_statement_14 rfl rfl (fun h14 => ?_) (fun h14 => ?_)
          · exact absurd h14 (by decide)
          · skip
            refine X_iload_n (nx := 18) dX8_statement_17 rfl rfl rfl ?_
            refine X_bipush (v := 107) (nx := 20) dX8_statement_18 rfl rfl ?_
            refine X_icmp_eq (tgt := 31) (nx := 23) dX8_statement_20 rfl rfl (fun h20 => ?_) (fun h20 => ?_)
            · skip
              refine X_aload_n (nx := 32) dX8_statement_31 rfl rfl rfl ?_
              refine M_getP (nx := 35) dX8_statement_32 rfl fl_RX8_73 rfl (by first | assumption | rfl | decide | omega) (by first | assumption | rfl | decide | omega) (by first | assumption | rfl | decide | omega) ?_
              refine X_aload_n (nx := 36) dX8_statement_35 rfl rfl rfl ?_
              refine M_getI (nx := 39) dX8_statement_36 rfl fl_RX8_227 rfl (by first | assumption | rfl | decide | omega) (by first | assumption | rfl | decide | omega) ?_
              refine X_top (h35) ?_
              refine X_iload_n (nx := 40) dX8_statement_39 rfl rfl rfl ?_
              refine M_st (a := 126) (L := 33) (nx := 41) dX8_statement_40 rfl (by decide) (by decide) rfl (by decide) (by omega) ?_
              refine X_aload_n (nx := 42) dX8_statement_41 rfl rfl rfl ?_
              refine M_getP (nx := 45) dX8_statement_42 rfl fl_RX8_76 rfl (by first | assumption | rfl | decide | omega) (by first | assumption | rfl | decide | omega) (by first | assumption | rfl | decide | omega) ?_
              refine X_aload_n (nx := 46) dX8_statement_45 rfl rfl rfl ?_
              refine M_getI (nx := 49) dX8_statement_46 rfl fl_RX8_227 rfl (by first | assumption | rfl | decide | omega) (by first | assumption | rfl | decide | omega) ?_
              refine X_top (h35) ?_
              refine X_aload_n (nx := 50) dX8_statement_49 rfl rfl rfl ?_
              refine M_getI (nx := 53) dX8_statement_50 rfl fl_RX8_214 rfl (by first | assumption | rfl | decide | omega) (by first | assumption | rfl | decide | omega) ?_
              refine X_top (hT.2.2.1) ?_
              refine M_st (a := 127) (L := 33) (nx := 54) dX8_statement_53 rfl (by decide) (by decide) rfl (by decide) (by omega) ?_
              refine X_aload_n (nx := 55) dX8_statement_54 rfl rfl rfl ?_
              refine X_iconst (v := nI 3) (nx := 56) dX8_statement_55 rfl rfl ?_
              refine X_aload_n (nx := 57) dX8_statement_56 rfl rfl rfl ?_
              refine M_getI (nx := 60) dX8_statement_57 rfl fl_RX8_227 rfl (by first | assumption | rfl | decide | omega) (by first | assumption | rfl | decide | omega) ?_
              refine X_top (h35) ?_
              refine X_imul (nx := 61) dX8_statement_60 rfl ?_
              refine X_top (mul_nI) ?_
              refine M_putI (nx := 64) dX8_statement_61 rfl fl_RX8_221 rfl rfl (by first | assumption | rfl | decide | omega) (by first | assumption | rfl | decide | omega) ?_
              refine X_aload_n (nx := 65) dX8_statement_64 rfl rfl rfl ?_
              refine X_dup (nx := 66) dX8_statement_65 rfl rfl ?_
              refine M_getI (nx := 69) dX8_statement_66 rfl fl_RX8_214 rfl (by first | assumption | rfl | decide | omega) (by first | assumption | rfl | decide | omega) ?_
              refine X_top (hT.2.2.1) ?_
              refine X_iconst (v := 1) (nx := 70) dX8_statement_69 rfl rfl ?_
              refine X_iadd (nx := 71) dX8_statement_70 rfl ?_
              refine X_top (nI_1 _) ?_
              refine M_putI (nx := 74) dX8_statement_71 rfl fl_RX8_214 rfl rfl (by first | assumption | rfl | decide | omega) (by first | assumption | rfl | decide | omega) ?_
              have S0 : SSI D (stD D s st (nI 107)) t s st n 0 := SSI.start hT h35 h37 hil e107 (by decide)
              refine X_aload_n (nx := 75) dX8_statement_74 rfl rfl rfl ?_
              refine Z_Vi0 (nx := 78) dX8_statement_75 rfl ml_RX8_234 kj_X8_readsDigit kv_X8_readsDigit (sp_X8_readsDigit S0.2.1 S0.2.2.1 (by omega)) (by first | assumption | rfl | decide | omega) (by first | assumption | rfl | decide | omega) (by decide) rfl (by first | decide | omega) (by exact Nat.le_of_ble_eq_true rfl) (fun u75 D75 g75 => ?_)
              refine X_if_ne (tgt := 83) (nx := 81) dX8_statement_78 rfl rfl (fun h78 => ?_) (fun h78 => ?_)
              · skip
                obtain ⟨i0, e0⟩ := g75.y h78
                subst e0
                have S1 := S0.dig (by omega) i0
                have A1 := dgY (r := 7) A0.1 A0.2 (fun _ => rfl) (by decide) i0
                refine X_iload_n (nx := 84) dX8_statement_83 rfl rfl rfl ?_
                refine X_bipush (v := 120) (nx := 86) dX8_statement_84 rfl rfl ?_
                refine X_icmp_eq (tgt := 98) (nx := 89) dX8_statement_86 rfl rfl (fun h86 => ?_) (fun h86 => ?_)
                · exact absurd h86 (by decide)
                · skip
                  refine X_aload_n (nx := 90) dX8_statement_89 rfl rfl rfl ?_
                  refine Z_Vi0 (nx := 93) dX8_statement_90 rfl ml_RX8_234 kj_X8_readsDigit kv_X8_readsDigit (sp_X8_readsDigit S1.2.1 S1.2.2.1 (by omega)) (by first | assumption | rfl | decide | omega) (by first | assumption | rfl | decide | omega) (by decide) rfl (by first | decide | omega) (by exact Nat.le_of_ble_eq_true rfl) (fun u90 D90 g90 => ?_)
                  refine X_if_ne (tgt := 98) (nx := 96) dX8_statement_93 rfl rfl (fun h93 => ?_) (fun h93 => ?_)
                  · skip
                    obtain ⟨i1, e1⟩ := g90.y h93
                    subst e1
                    have S2 := S1.dig (by omega) i1
                    have A2 := dgY (r := 8) A1.1 A1.2 (fun _ => rfl) (by decide) i1
                    refine X_iload_n (nx := 99) dX8_statement_98 rfl rfl rfl ?_
                    refine X_bipush (v := 107) (nx := 101) dX8_statement_99 rfl rfl ?_
                    refine X_icmp_ne (tgt := 113) (nx := 104) dX8_statement_101 rfl rfl (fun h101 => ?_) (fun h101 => ?_)
                    · exact absurd h101 (by decide)
                    · skip
                      refine X_aload_n (nx := 105) dX8_statement_104 rfl rfl rfl ?_
                      refine Z_Vi0 (nx := 108) dX8_statement_105 rfl ml_RX8_234 kj_X8_readsDigit kv_X8_readsDigit (sp_X8_readsDigit S2.2.1 S2.2.2.1 (by omega)) (by first | assumption | rfl | decide | omega) (by first | assumption | rfl | decide | omega) (by decide) rfl (by first | decide | omega) (by exact Nat.le_of_ble_eq_true rfl) (fun u105 D105 g105 => ?_)
                      refine X_if_ne (tgt := 113) (nx := 111) dX8_statement_108 rfl rfl (fun h108 => ?_) (fun h108 => ?_)
                      · skip
                        obtain ⟨i2, e2⟩ := g105.y h108
                        subst e2
                        have S3 := S2.dig (by omega) i2
                        have A3 := dgY (r := 9) A2.1 A2.2 (fun _ => rfl) (by decide) i2
                        refine X_iload_n (nx := 114) dX8_statement_113 rfl rfl rfl ?_
                        refine X_bipush (v := 114) (nx := 116) dX8_statement_114 rfl rfl ?_
                        refine X_icmp_eq (tgt := 125) (nx := 119) dX8_statement_116 rfl rfl (fun h116 => ?_) (fun h116 => ?_)
                        · exact absurd h116 (by decide)
                        · skip
                          refine X_iload_n (nx := 120) dX8_statement_119 rfl rfl rfl ?_
                          refine X_bipush (v := 109) (nx := 122) dX8_statement_120 rfl rfl ?_
                          refine X_icmp_ne (tgt := 134) (nx := 125) dX8_statement_122 rfl rfl (fun h122 => ?_) (fun h122 => ?_)
                          · skip
                            refine X_aload_n (nx := 135) dX8_statement_134 rfl rfl rfl ?_
                            refine Y_Vi0 (nx := 138) dX8_statement_135 rfl ml_RX8_217 kj_X8_sign kv_X8_sign (sp_X8_sign S3.2.1) (by first | assumption | rfl | decide | omega) (by first | assumption | rfl | decide | omega) (by decide) rfl (by first | decide | omega) (by exact Nat.le_of_ble_eq_true rfl) ?_
                            refine X_bipush (v := nI 59) (nx := 140) dX8_statement_138 rfl rfl ?_
                            refine X_icmp_eq (tgt := 145) (nx := 143) dX8_statement_140 rfl rfl (fun h140 => ?_) (fun h140 => ?_)
                            · skip
                              have h59 := sg_eq S3.2.1 h140 (by omega)
                              refine X_aload_n (nx := 146) dX8_statement_145 rfl rfl rfl ?_
                              refine X_dup (nx := 147) dX8_statement_146 rfl rfl ?_
                              refine M_getI (nx := 150) dX8_statement_147 rfl fl_RX8_214 rfl (by first | assumption | rfl | decide | omega) (by first | assumption | rfl | decide | omega) ?_
                              refine X_top (S3.2.1.2.2.1) ?_
                              refine X_iconst (v := 1) (nx := 151) dX8_statement_150 rfl rfl ?_
                              refine X_iadd (nx := 152) dX8_statement_151 rfl ?_
                              refine X_top (nI_1 _) ?_
                              refine M_putI (nx := 155) dX8_statement_152 rfl fl_RX8_214 rfl rfl (by first | assumption | rfl | decide | omega) (by first | assumption | rfl | decide | omega) ?_
                              refine X_iconst (v := 1) (nx := 156) dX8_statement_155 rfl rfl ?_
                              exact Z_reti dX8_statement_156 (Or.inr ⟨rfl, by first | exact Or.inl rfl | exact Or.inr rfl | exact b2i_01 _ | assumption⟩) (STM.fin0 S3 hn (by omega) A3.1 A3.2 h59)
                            · skip
                              refine X_iconst (v := 0) (nx := 144) dX8_statement_143 rfl rfl ?_
                              exact Z_reti dX8_statement_144 (Or.inr ⟨rfl, by first | exact Or.inl rfl | exact Or.inr rfl | exact b2i_01 _ | assumption⟩) (S3.bad (by
                                refine A3.1.fail S3.2.1.2.2.2.1 A3.2 ?_
                                by_cases hl : st + 1 + 3 < t.length
                                · exact Or.inl ⟨hl, by rw [show ∀ c, dl 9 c = if c = 59 then 0 else 10 from fun _ => rfl, if_neg (sg_ne hl h140)]⟩
                                · exact Or.inr ⟨by have := S3.2.1.2.2.2.1; omega, Or.inl (by decide)⟩))
                          · exact absurd h122 (by decide)
                      · skip
                        obtain ⟨i2, e2⟩ := g105.n h108
                        subst e2
                        refine X_iconst (v := 0) (nx := 112) dX8_statement_111 rfl rfl ?_
                        exact Z_reti dX8_statement_112 (Or.inr ⟨rfl, by first | exact Or.inl rfl | exact Or.inr rfl | exact b2i_01 _ | assumption⟩) (S2.bad (dgN (r := 9) A2.1 S2.2.1.2.2.2.1 A2.2 (fun _ => rfl) (by decide) i2))
                  · skip
                    obtain ⟨i1, e1⟩ := g90.n h93
                    subst e1
                    refine X_iconst (v := 0) (nx := 97) dX8_statement_96 rfl rfl ?_
                    exact Z_reti dX8_statement_97 (Or.inr ⟨rfl, by first | exact Or.inl rfl | exact Or.inr rfl | exact b2i_01 _ | assumption⟩) (S1.bad (dgN (r := 8) A1.1 S1.2.1.2.2.2.1 A1.2 (fun _ => rfl) (by decide) i1))
              · skip
                obtain ⟨i0, e0⟩ := g75.n h78
                subst e0
                refine X_iconst (v := 0) (nx := 82) dX8_statement_81 rfl rfl ?_
                exact Z_reti dX8_statement_82 (Or.inr ⟨rfl, by first | exact Or.inl rfl | exact Or.inr rfl | exact b2i_01 _ | assumption⟩) (S0.bad (dgN (r := 7) A0.1 S0.2.1.2.2.2.1 A0.2 (fun _ => rfl) (by decide) i0))
            · exact absurd h20 (by decide)
      · skip
        by_cases e120 : st < t.length ∧ t.getD st 0 = 120
        · obtain ⟨hil, e120⟩ := e120
          have hs33 : s < 32 := (by omega)
          have A0 : ALV t (st + 1 + 0) ∧ qs t (st + 1 + 0) = 8 := hA.s hq (by rw [e120]; rfl) (by decide)
          refine X_top (y := 120) (by rw [sgI_y hil, e120]; rfl) ?_
          refine X_istore_n (i := 1) (nx := 5) dX8_statement_4 rfl rfl (by decide) rfl (st_s (st_0)) ?_
          refine X_iload_n (nx := 6) dX8_statement_5 rfl rfl rfl ?_
          refine X_bipush (v := 114) (nx := 8) dX8_statement_6 rfl rfl ?_
          refine X_icmp_eq (tgt := 31) (nx := 11) dX8_statement_8 rfl rfl (fun h8 => ?_) (fun h8 => ?_)
          · exact absurd h8 (by decide)
          · skip
            refine X_iload_n (nx := 12) dX8_statement_11 rfl rfl rfl ?_
            refine X_bipush (v := 109) (nx := 14) dX8_statement_12 rfl rfl ?_
            refine X_icmp_eq (tgt := 31) (nx := 17) dX8_statement_14 rfl rfl (fun h14 => ?_) (fun h14 => ?_)
            · exact absurd h14 (by decide)
            · skip
              refine X_iload_n (nx := 18) dX8_statement_17 rfl rfl rfl ?_
              refine X_bipush (v := 107) (nx := 20) dX8_statement_18 rfl rfl ?_
              refine X_icmp_eq (tgt := 31) (nx := 23) dX8_statement_20 rfl rfl (fun h20 => ?_) (fun h20 => ?_)
              · exact absurd h20 (by decide)
              · skip
                refine X_iload_n (nx := 24) dX8_statement_23 rfl rfl rfl ?_
                refine X_bipush (v := 120) (nx := 26) dX8_statement_24 rfl rfl ?_
                refine X_icmp_eq (tgt := 31) (nx := 29) dX8_statement_26 rfl rfl (fun h26 => ?_) (fun h26 => ?_)
                · skip
                  refine X_aload_n (nx := 32) dX8_statement_31 rfl rfl rfl ?_
                  refine M_getP (nx := 35) dX8_statement_32 rfl fl_RX8_73 rfl (by first | assumption | rfl | decide | omega) (by first | assumption | rfl | decide | omega) (by first | assumption | rfl | decide | omega) ?_
                  refine X_aload_n (nx := 36) dX8_statement_35 rfl rfl rfl ?_
                  refine M_getI (nx := 39) dX8_statement_36 rfl fl_RX8_227 rfl (by first | assumption | rfl | decide | omega) (by first | assumption | rfl | decide | omega) ?_
                  refine X_top (h35) ?_
                  refine X_iload_n (nx := 40) dX8_statement_39 rfl rfl rfl ?_
                  refine M_st (a := 126) (L := 33) (nx := 41) dX8_statement_40 rfl (by decide) (by decide) rfl (by decide) (by omega) ?_
                  refine X_aload_n (nx := 42) dX8_statement_41 rfl rfl rfl ?_
                  refine M_getP (nx := 45) dX8_statement_42 rfl fl_RX8_76 rfl (by first | assumption | rfl | decide | omega) (by first | assumption | rfl | decide | omega) (by first | assumption | rfl | decide | omega) ?_
                  refine X_aload_n (nx := 46) dX8_statement_45 rfl rfl rfl ?_
                  refine M_getI (nx := 49) dX8_statement_46 rfl fl_RX8_227 rfl (by first | assumption | rfl | decide | omega) (by first | assumption | rfl | decide | omega) ?_
                  refine X_top (h35) ?_
                  refine X_aload_n (nx := 50) dX8_statement_49 rfl rfl rfl ?_
                  refine M_getI (nx := 53) dX8_statement_50 rfl fl_RX8_214 rfl (by first | assumption | rfl | decide | omega) (by first | assumption | rfl | decide | omega) ?_
                  refine X_top (hT.2.2.1) ?_
                  refine M_st (a := 127) (L := 33) (nx := 54) dX8_statement_53 rfl (by decide) (by decide) rfl (by decide) (by omega) ?_
                  refine X_aload_n (nx := 55) dX8_statement_54 rfl rfl rfl ?_
                  refine X_iconst (v := nI 3) (nx := 56) dX8_statement_55 rfl rfl ?_
                  refine X_aload_n (nx := 57) dX8_statement_56 rfl rfl rfl ?_
                  refine M_getI (nx := 60) dX8_statement_57 rfl fl_RX8_227 rfl (by first | assumption | rfl | decide | omega) (by first | assumption | rfl | decide | omega) ?_
                  refine X_top (h35) ?_
                  refine X_imul (nx := 61) dX8_statement_60 rfl ?_
                  refine X_top (mul_nI) ?_
                  refine M_putI (nx := 64) dX8_statement_61 rfl fl_RX8_221 rfl rfl (by first | assumption | rfl | decide | omega) (by first | assumption | rfl | decide | omega) ?_
                  refine X_aload_n (nx := 65) dX8_statement_64 rfl rfl rfl ?_
                  refine X_dup (nx := 66) dX8_statement_65 rfl rfl ?_
                  refine M_getI (nx := 69) dX8_statement_66 rfl fl_RX8_214 rfl (by first | assumption | rfl | decide | omega) (by first | assumption | rfl | decide | omega) ?_
                  refine X_top (hT.2.2.1) ?_
                  refine X_iconst (v := 1) (nx := 70) dX8_statement_69 rfl rfl ?_
                  refine X_iadd (nx := 71) dX8_statement_70 rfl ?_
                  refine X_top (nI_1 _) ?_
                  refine M_putI (nx := 74) dX8_statement_71 rfl fl_RX8_214 rfl rfl (by first | assumption | rfl | decide | omega) (by first | assumption | rfl | decide | omega) ?_
                  have S0 : SSI D (stD D s st (nI 120)) t s st n 0 := SSI.start hT h35 h37 hil e120 (by decide)
                  refine X_aload_n (nx := 75) dX8_statement_74 rfl rfl rfl ?_
                  refine Z_Vi0 (nx := 78) dX8_statement_75 rfl ml_RX8_234 kj_X8_readsDigit kv_X8_readsDigit (sp_X8_readsDigit S0.2.1 S0.2.2.1 (by omega)) (by first | assumption | rfl | decide | omega) (by first | assumption | rfl | decide | omega) (by decide) rfl (by first | decide | omega) (by exact Nat.le_of_ble_eq_true rfl) (fun u75 D75 g75 => ?_)
                  refine X_if_ne (tgt := 83) (nx := 81) dX8_statement_78 rfl rfl (fun h78 => ?_) (fun h78 => ?_)
                  · skip
                    obtain ⟨i0, e0⟩ := g75.y h78
                    subst e0
                    have S1 := S0.dig (by omega) i0
                    have A1 := dgY (r := 9) A0.1 A0.2 (fun _ => rfl) (by decide) i0
                    refine X_iload_n (nx := 84) dX8_statement_83 rfl rfl rfl ?_
                    refine X_bipush (v := 120) (nx := 86) dX8_statement_84 rfl rfl ?_
                    refine X_icmp_eq (tgt := 98) (nx := 89) dX8_statement_86 rfl rfl (fun h86 => ?_) (fun h86 => ?_)
                    · skip
                      refine X_iload_n (nx := 99) dX8_statement_98 rfl rfl rfl ?_
                      refine X_bipush (v := 107) (nx := 101) dX8_statement_99 rfl rfl ?_
                      refine X_icmp_ne (tgt := 113) (nx := 104) dX8_statement_101 rfl rfl (fun h101 => ?_) (fun h101 => ?_)
                      · skip
                        refine X_iload_n (nx := 114) dX8_statement_113 rfl rfl rfl ?_
                        refine X_bipush (v := 114) (nx := 116) dX8_statement_114 rfl rfl ?_
                        refine X_icmp_eq (tgt := 125) (nx := 119) dX8_statement_116 rfl rfl (fun h116 => ?_) (fun h116 => ?_)
                        · exact absurd h116 (by decide)
                        · skip
                          refine X_iload_n (nx := 120) dX8_statement_119 rfl rfl rfl ?_
                          refine X_bipush (v := 109) (nx := 122) dX8_statement_120 rfl rfl ?_
                          refine X_icmp_ne (tgt := 134) (nx := 125) dX8_statement_122 rfl rfl (fun h122 => ?_) (fun h122 => ?_)
                          · skip
                            refine X_aload_n (nx := 135) dX8_statement_134 rfl rfl rfl ?_
                            refine Y_Vi0 (nx := 138) dX8_statement_135 rfl ml_RX8_217 kj_X8_sign kv_X8_sign (sp_X8_sign S1.2.1) (by first | assumption | rfl | decide | omega) (by first | assumption | rfl | decide | omega) (by decide) rfl (by first | decide | omega) (by exact Nat.le_of_ble_eq_true rfl) ?_
                            refine X_bipush (v := nI 59) (nx := 140) dX8_statement_138 rfl rfl ?_
                            refine X_icmp_eq (tgt := 145) (nx := 143) dX8_statement_140 rfl rfl (fun h140 => ?_) (fun h140 => ?_)
                            · skip
                              have h59 := sg_eq S1.2.1 h140 (by omega)
                              refine X_aload_n (nx := 146) dX8_statement_145 rfl rfl rfl ?_
                              refine X_dup (nx := 147) dX8_statement_146 rfl rfl ?_
                              refine M_getI (nx := 150) dX8_statement_147 rfl fl_RX8_214 rfl (by first | assumption | rfl | decide | omega) (by first | assumption | rfl | decide | omega) ?_
                              refine X_top (S1.2.1.2.2.1) ?_
                              refine X_iconst (v := 1) (nx := 151) dX8_statement_150 rfl rfl ?_
                              refine X_iadd (nx := 152) dX8_statement_151 rfl ?_
                              refine X_top (nI_1 _) ?_
                              refine M_putI (nx := 155) dX8_statement_152 rfl fl_RX8_214 rfl rfl (by first | assumption | rfl | decide | omega) (by first | assumption | rfl | decide | omega) ?_
                              refine X_iconst (v := 1) (nx := 156) dX8_statement_155 rfl rfl ?_
                              exact Z_reti dX8_statement_156 (Or.inr ⟨rfl, by first | exact Or.inl rfl | exact Or.inr rfl | exact b2i_01 _ | assumption⟩) (STM.fin0 S1 hn (by omega) A1.1 A1.2 h59)
                            · skip
                              refine X_iconst (v := 0) (nx := 144) dX8_statement_143 rfl rfl ?_
                              exact Z_reti dX8_statement_144 (Or.inr ⟨rfl, by first | exact Or.inl rfl | exact Or.inr rfl | exact b2i_01 _ | assumption⟩) (S1.bad (by
                                refine A1.1.fail S1.2.1.2.2.2.1 A1.2 ?_
                                by_cases hl : st + 1 + 1 < t.length
                                · exact Or.inl ⟨hl, by rw [show ∀ c, dl 9 c = if c = 59 then 0 else 10 from fun _ => rfl, if_neg (sg_ne hl h140)]⟩
                                · exact Or.inr ⟨by have := S1.2.1.2.2.2.1; omega, Or.inl (by decide)⟩))
                          · exact absurd h122 (by decide)
                      · exact absurd h101 (by decide)
                    · exact absurd h86 (by decide)
                  · skip
                    obtain ⟨i0, e0⟩ := g75.n h78
                    subst e0
                    refine X_iconst (v := 0) (nx := 82) dX8_statement_81 rfl rfl ?_
                    exact Z_reti dX8_statement_82 (Or.inr ⟨rfl, by first | exact Or.inl rfl | exact Or.inr rfl | exact b2i_01 _ | assumption⟩) (S0.bad (dgN (r := 9) A0.1 S0.2.1.2.2.2.1 A0.2 (fun _ => rfl) (by decide) i0))
                · exact absurd h26 (by decide)
        · skip
          have hall : st < t.length → ¬ t.getD st 0 = 114 ∧ ¬ t.getD st 0 = 109 ∧ ¬ t.getD st 0 = 107 ∧ ¬ t.getD st 0 = 120 := (fun q => ⟨fun w => e114 ⟨q, w⟩, fun w => e109 ⟨q, w⟩, fun w => e107 ⟨q, w⟩, fun w => e120 ⟨q, w⟩⟩)
          have N : ∀ c, c < 256 → (c = 114 ∨ c = 109 ∨ c = 107 ∨ c = 120) → ¬ sgI t st = nI c := (fun c hc hx q => by
            have w := sg_eq hT q hc
            have v := hall w.1
            omega)
          have HF : ffp t = some st := hA.fail hle hq (by
            by_cases hil : st < t.length
            · have v := hall hil
              exact Or.inl ⟨hil, by rw [show ∀ c, dl 0 c = if c = 114 ∨ c = 109 then 1 else if c = 107 then 6 else if c = 120 then 8 else 10 from fun _ => rfl, if_neg (fun w => w.elim v.1 v.2.1), if_neg v.2.2.1, if_neg v.2.2.2]⟩
            · exact Or.inr ⟨by omega, Or.inr (by omega)⟩)
          refine X_istore_n (i := 1) (nx := 5) dX8_statement_4 rfl rfl (by decide) rfl (st_s (st_0)) ?_
          refine X_iload_n (nx := 6) dX8_statement_5 rfl rfl rfl ?_
          refine X_bipush (v := nI 114) (nx := 8) dX8_statement_6 rfl rfl ?_
          refine X_icmp_eq (tgt := 31) (nx := 11) dX8_statement_8 rfl rfl (fun h8 => ?_) (fun h8 => ?_)
          · exact absurd h8 (fun q => N 114 (by omega) (by omega) q)
          · skip
            refine X_iload_n (nx := 12) dX8_statement_11 rfl rfl rfl ?_
            refine X_bipush (v := nI 109) (nx := 14) dX8_statement_12 rfl rfl ?_
            refine X_icmp_eq (tgt := 31) (nx := 17) dX8_statement_14 rfl rfl (fun h14 => ?_) (fun h14 => ?_)
            · exact absurd h14 (fun q => N 109 (by omega) (by omega) q)
            · skip
              refine X_iload_n (nx := 18) dX8_statement_17 rfl rfl rfl ?_
              refine X_bipush (v := nI 107) (nx := 20) dX8_statement_18 rfl rfl ?_
              refine X_icmp_eq (tgt := 31) (nx := 23) dX8_statement_20 rfl rfl (fun h20 => ?_) (fun h20 => ?_)
              · exact absurd h20 (fun q => N 107 (by omega) (by omega) q)
              · skip
                refine X_iload_n (nx := 24) dX8_statement_23 rfl rfl rfl ?_
                refine X_bipush (v := nI 120) (nx := 26) dX8_statement_24 rfl rfl ?_
                refine X_icmp_eq (tgt := 31) (nx := 29) dX8_statement_26 rfl rfl (fun h26 => ?_) (fun h26 => ?_)
                · exact absurd h26 (fun q => N 120 (by omega) (by omega) q)
                · skip
                  refine X_iconst (v := 0) (nx := 30) dX8_statement_29 rfl rfl ?_
                  exact Z_reti dX8_statement_30 (Or.inr ⟨rfl, by first | exact Or.inl rfl | exact Or.inr rfl | exact b2i_01 _ | assumption⟩) ⟨Fq.rf, Or.inr ⟨rfl, st, hT.2.2.1, HF⟩⟩
