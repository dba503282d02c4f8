/-! THE REFERENCE: the best kind, what kind, brought, never -/
theorem inv_K1 {D : Mem} {S : St} {F : Nat → Nat} {R k l : Nat} {f : Nat → Nat} {T : Nat → Bool} (h : INVT D S T (up1 f R l) F) : INVT (up2 D 106 R (nI k)) S T (up1 f R k) F ∧ Fr inR D (up2 D 106 R (nI k)) := by
  have := inv_K (R := R) (k := k) h
  rw [show (fun i => if i = R then k else up1 f R l i) = up1 f R k from up1_up1] at this
  exact this
theorem inv_F1 {D : Mem} {S : St} {K : Nat → Nat} {R k l : Nat} {f : Nat → Nat} {T : Nat → Bool} (h : INVT D S T K (up1 f R l)) : INVT (up2 D 107 R (nI k)) S T K (up1 f R k) ∧ Fr inR D (up2 D 107 R (nI k)) := by
  have := inv_F (R := R) (f := k) h
  rw [show (fun i => if i = R then k else up1 f R l i) = up1 f R k from up1_up1] at this
  exact this
theorem up1_K {K F : Nat → Nat} {R k : Nat} (h : ∀ i, i < 3 → K i ≤ 5 ∧ F i ≤ 9) (hk : k ≤ 5) : ∀ i, i < 3 → up1 K R k i ≤ 5 ∧ F i ≤ 9 := fun i hi => by
  unfold up1; split
  · exact ⟨hk, (h i hi).2⟩
  · exact h i hi
theorem up1_F {K F : Nat → Nat} {R k : Nat} (h : ∀ i, i < 3 → K i ≤ 5 ∧ F i ≤ 9) (hk : k ≤ 9) : ∀ i, i < 3 → K i ≤ 5 ∧ up1 F R k i ≤ 9 := fun i hi => by
  unfold up1; split
  · exact ⟨(h i hi).1, hk⟩
  · exact h i hi
def rbN (S : St) (R i : Nat) : Int32 × Int32 × Int32 := if i = 0 then (-9, -9, -9) else bstN S R (0, -1, 0) i
theorem cnI_lt (P : Nat → Bool) : cn P 341 ≤ 341 := by
  have : ∀ n, cn P n ≤ n := by
    intro n
    induction n with
    | zero => exact Nat.le_refl _
    | succ n ih => rw [cn_s]; split <;> omega
  exact this 341
theorem rb_y {S : St} {R k : Nat} (h : (rbN S R k).2.1 < bcn S R k ∨ (bcn S R k = (rbN S R k).2.1 ∧ bsm S R k < (rbN S R k).2.2)) : rbN S R (k + 1) = (nI k, bcn S R k, bsm S R k) := by
  unfold rbN at *
  rw [if_neg (by omega)]
  refine bst_y ?_
  by_cases e : k = 0
  · subst e
    refine Or.inl ?_
    show (-1 : Int32) < nI _
    exact Int32.lt_of_lt_of_le (by decide) (nI_pos' (by have := cnI_lt (fun p => (mtE (bk S) (wS S) 0 p (up1 (kd_ (bk S)) R 0) (fg_ (bk S))).isSome); omega))
  · rw [if_neg e] at h; exact h
theorem rb_0 {S : St} {R : Nat} : (rbN S R 0).2.1 < bcn S R 0 := by
  show (-9 : Int32) < nI _
  exact Int32.lt_of_lt_of_le (by decide) (nI_pos' (by have := cnI_lt (fun p => (mtE (bk S) (wS S) 0 p (up1 (kd_ (bk S)) R 0) (fg_ (bk S))).isSome); omega))
theorem rb_n {S : St} {R k : Nat} (h : ¬ ((rbN S R k).2.1 < bcn S R k ∨ (bcn S R k = (rbN S R k).2.1 ∧ bsm S R k < (rbN S R k).2.2))) : rbN S R (k + 1) = rbN S R k := by
  by_cases e : k = 0
  · subst e; exact absurd (Or.inl rb_0) h
  · unfold rbN at *
    rw [if_neg e] at h ⊢
    rw [if_neg (by omega)]
    exact bst_n h
theorem rbN_6 {S : St} {R : Nat} : rbN S R 6 = bstN S R (0, -1, 0) 6 := if_neg (by decide)
theorem rbN_0 {S : St} {R : Nat} : rbN S R 0 = (-9, -9, -9) := if_pos rfl
theorem wT_S2 (S : St) : wT (bk S) (th_ (bk S)) = wS S := rfl
theorem ba_cn {S : St} {R k : Nat} {u : Int32} (h : u = nI (cn (fun p => (mtE (bk S) (wT (bk S) (th_ (bk S))) 0 p (up1 (kd_ (bk S)) R k) (fg_ (bk S))).isSome) 341)) : u = bcn S R k := by
  rw [wT_S2] at h; exact h
theorem ba_sm {S : St} {R k : Nat} {D D' : Mem} (h : BA2 D S (th_ (bk S)) (up1 (kd_ (bk S)) R k) (fg_ (bk S)) 0 341 D') : D' 104 42 = bsm S R k := by
  have q := h.2.2
  rw [wT_S2] at q; exact q
theorem lt_tri {x y : Int32} (h1 : ¬ x < y) (h2 : ¬ x = y) : y < x := by
  rw [Int32.lt_iff_toInt_lt] at *
  have : x.toInt ≠ y.toInt := fun e => h2 (Int32.toInt_inj.mp e)
  omega
theorem dX8_best_0 : decode cX8_best 0 = .ok (.iload_n 1, 1) := by decide +kernel
theorem dX8_best_1 : decode cX8_best 1 = .ok (.invokestatic 240, 3) := by decide +kernel
theorem dX8_best_4 : decode cX8_best 4 = .ok (.ifCond .ne 9, 3) := by decide +kernel
theorem dX8_best_7 : decode cX8_best 7 = .ok (.aload_n 0, 1) := by decide +kernel
theorem dX8_best_8 : decode cX8_best 8 = .ok (.iconst (-1), 1) := by decide +kernel
theorem dX8_best_9 : decode cX8_best 9 = .ok (.invokevirtual 211, 3) := by decide +kernel
theorem dX8_best_12 : decode cX8_best 12 = .ok (.ireturn, 1) := by decide +kernel
theorem dX8_best_13 : decode cX8_best 13 = .ok (.aload_n 0, 1) := by decide +kernel
theorem dX8_best_14 : decode cX8_best 14 = .ok (.getfield 13, 3) := by decide +kernel
theorem dX8_best_17 : decode cX8_best 17 = .ok (.iload_n 1, 1) := by decide +kernel
theorem dX8_best_18 : decode cX8_best 18 = .ok (.iaload, 1) := by decide +kernel
theorem dX8_best_19 : decode cX8_best 19 = .ok (.istore_n 2, 1) := by decide +kernel
theorem dX8_best_20 : decode cX8_best 20 = .ok (.bipush (-9), 2) := by decide +kernel
theorem dX8_best_22 : decode cX8_best 22 = .ok (.istore_n 3, 1) := by decide +kernel
theorem dX8_best_23 : decode cX8_best 23 = .ok (.bipush (-9), 2) := by decide +kernel
theorem dX8_best_25 : decode cX8_best 25 = .ok (.istore 4, 2) := by decide +kernel
theorem dX8_best_27 : decode cX8_best 27 = .ok (.bipush (-9), 2) := by decide +kernel
theorem dX8_best_29 : decode cX8_best 29 = .ok (.istore 5, 2) := by decide +kernel
theorem dX8_best_31 : decode cX8_best 31 = .ok (.iconst 0, 1) := by decide +kernel
theorem dX8_best_32 : decode cX8_best 32 = .ok (.istore 6, 2) := by decide +kernel
theorem dX8_best_34 : decode cX8_best 34 = .ok (.iload 6, 2) := by decide +kernel
theorem dX8_best_36 : decode cX8_best 36 = .ok (.bipush 6, 2) := by decide +kernel
theorem dX8_best_38 : decode cX8_best 38 = .ok (.if_icmp .ge 63, 3) := by decide +kernel
theorem dX8_best_41 : decode cX8_best 41 = .ok (.aload_n 0, 1) := by decide +kernel
theorem dX8_best_42 : decode cX8_best 42 = .ok (.getfield 13, 3) := by decide +kernel
theorem dX8_best_45 : decode cX8_best 45 = .ok (.iload_n 1, 1) := by decide +kernel
theorem dX8_best_46 : decode cX8_best 46 = .ok (.iload 6, 2) := by decide +kernel
theorem dX8_best_48 : decode cX8_best 48 = .ok (.iastore, 1) := by decide +kernel
theorem dX8_best_49 : decode cX8_best 49 = .ok (.aload_n 0, 1) := by decide +kernel
theorem dX8_best_50 : decode cX8_best 50 = .ok (.iconst 0, 1) := by decide +kernel
theorem dX8_best_51 : decode cX8_best 51 = .ok (.invokevirtual 329, 3) := by decide +kernel
theorem dX8_best_54 : decode cX8_best 54 = .ok (.istore 7, 2) := by decide +kernel
theorem dX8_best_56 : decode cX8_best 56 = .ok (.iload 7, 2) := by decide +kernel
theorem dX8_best_58 : decode cX8_best 58 = .ok (.iload 4, 2) := by decide +kernel
theorem dX8_best_60 : decode cX8_best 60 = .ok (.if_icmp .lt 35, 3) := by decide +kernel
theorem dX8_best_63 : decode cX8_best 63 = .ok (.iload 7, 2) := by decide +kernel
theorem dX8_best_65 : decode cX8_best 65 = .ok (.iload 4, 2) := by decide +kernel
theorem dX8_best_67 : decode cX8_best 67 = .ok (.if_icmp .ne 15, 3) := by decide +kernel
theorem dX8_best_70 : decode cX8_best 70 = .ok (.aload_n 0, 1) := by decide +kernel
theorem dX8_best_71 : decode cX8_best 71 = .ok (.getfield 326, 3) := by decide +kernel
theorem dX8_best_74 : decode cX8_best 74 = .ok (.iload 5, 2) := by decide +kernel
theorem dX8_best_76 : decode cX8_best 76 = .ok (.if_icmp .lt 6, 3) := by decide +kernel
theorem dX8_best_79 : decode cX8_best 79 = .ok (.goto 16, 3) := by decide +kernel
theorem dX8_best_82 : decode cX8_best 82 = .ok (.iload 6, 2) := by decide +kernel
theorem dX8_best_84 : decode cX8_best 84 = .ok (.istore_n 3, 1) := by decide +kernel
theorem dX8_best_85 : decode cX8_best 85 = .ok (.iload 7, 2) := by decide +kernel
theorem dX8_best_87 : decode cX8_best 87 = .ok (.istore 4, 2) := by decide +kernel
theorem dX8_best_89 : decode cX8_best 89 = .ok (.aload_n 0, 1) := by decide +kernel
theorem dX8_best_90 : decode cX8_best 90 = .ok (.getfield 326, 3) := by decide +kernel
theorem dX8_best_93 : decode cX8_best 93 = .ok (.istore 5, 2) := by decide +kernel
theorem dX8_best_95 : decode cX8_best 95 = .ok (.iinc 6 1, 3) := by decide +kernel
theorem dX8_best_98 : decode cX8_best 98 = .ok (.goto (-64), 3) := by decide +kernel
theorem dX8_best_101 : decode cX8_best 101 = .ok (.aload_n 0, 1) := by decide +kernel
theorem dX8_best_102 : decode cX8_best 102 = .ok (.getfield 13, 3) := by decide +kernel
theorem dX8_best_105 : decode cX8_best 105 = .ok (.iload_n 1, 1) := by decide +kernel
theorem dX8_best_106 : decode cX8_best 106 = .ok (.iload_n 2, 1) := by decide +kernel
theorem dX8_best_107 : decode cX8_best 107 = .ok (.iastore, 1) := by decide +kernel
theorem dX8_best_108 : decode cX8_best 108 = .ok (.iload_n 3, 1) := by decide +kernel
theorem dX8_best_109 : decode cX8_best 109 = .ok (.ireturn, 1) := by decide +kernel
theorem lp_X8_best {S : St} {D : Mem} {R : Nat} (hw : WF S) (hR : R < 3) : ∀ (m : Nat) (i : Nat) (D1 : Mem) (l : Nat) (y : Option Value), i + m = 6 → INVT D1 S (th_ (bk S)) (up1 (kd_ (bk S)) R l) (fg_ (bk S)) → Fr inR D D1 → X 7 138 j_X8_best 34 [some (.ref 104), some (.int (nI R)), some (.int (nI (kd_ (bk S) R))), some (.int (rbN S R i).1), some (.int (rbN S R i).2.1), some (.int (rbN S R i).2.2), some (.int (nI i)), y] [] (138, P0, D1) (fun x σ => ∃ (u : Int32) (D' : Mem), x = [.int u] ∧ σ = wd D' ∧ CK2 D ((rbN S R 6).1, S) u D') := by
  intro m
  induction m with
  | zero =>
    intro i D1 l y hi h hf
    refine X_iload (nx := 36) dX8_best_34 rfl rfl ?_
    refine X_bipush (v := nI 6) (nx := 38) dX8_best_36 rfl rfl ?_
    refine X_icmp_ge (tgt := 101) (nx := 41) dX8_best_38 rfl rfl (fun h38 => ?_) (fun h38 => ?_)
    · skip
      refine X_aload_n (nx := 102) dX8_best_101 rfl rfl rfl ?_
      refine M_getP (nx := 105) dX8_best_102 rfl fl_RX8_13 rfl (by first | assumption | rfl | decide | omega) (by first | assumption | rfl | decide | omega) (by first | assumption | rfl | decide | omega) ?_
      refine X_iload_n (nx := 106) dX8_best_105 rfl rfl rfl ?_
      refine X_iload_n (nx := 107) dX8_best_106 rfl rfl rfl ?_
      refine M_st (a := 106) (L := 3) (nx := 108) dX8_best_107 rfl (by decide) (by decide) rfl (by decide) (by omega) ?_
      refine X_iload_n (nx := 109) dX8_best_108 rfl rfl rfl ?_
      exact Z_reti dX8_best_109 (Or.inl rfl) (by obtain rfl : i = 6 := (by omega); have hx := inv_K1 (k := kd_ (bk S) R) h; rw [up1_id] at hx; exact ck2_s rfl hx.1 (hf.tr hx.2))
    · exact absurd h38 (fun q => q (nI_le (by omega) (by omega)))
  | succ m ih =>
    intro i D1 l y hi h hf
    refine X_iload (nx := 36) dX8_best_34 rfl rfl ?_
    refine X_bipush (v := nI 6) (nx := 38) dX8_best_36 rfl rfl ?_
    refine X_icmp_ge (tgt := 101) (nx := 41) dX8_best_38 rfl rfl (fun h38 => ?_) (fun h38 => ?_)
    · exact absurd h38 (nI_ge (by omega) (by omega))
    · skip
      refine X_aload_n (nx := 42) dX8_best_41 rfl rfl rfl ?_
      refine M_getP (nx := 45) dX8_best_42 rfl fl_RX8_13 rfl (by first | assumption | rfl | decide | omega) (by first | assumption | rfl | decide | omega) (by first | assumption | rfl | decide | omega) ?_
      refine X_iload_n (nx := 46) dX8_best_45 rfl rfl rfl ?_
      refine X_iload (nx := 48) dX8_best_46 rfl rfl ?_
      refine M_st (a := 106) (L := 3) (nx := 49) dX8_best_48 rfl (by decide) (by decide) rfl (by decide) (by omega) ?_
      have hk1 := inv_K1 (k := i) h
      refine X_aload_n (nx := 50) dX8_best_49 rfl rfl rfl ?_
      refine X_iconst (v := 0) (nx := 51) dX8_best_50 rfl rfl ?_
      refine Z_Vi1 (nx := 54) dX8_best_51 rfl ml_RX8_329 kj_X8_matchedBy kv_X8_matchedBy (sp_X8_matchedBy (v := 0) hw (up1_K hw.1.1 (by omega)) tle (by omega) hk1.1 rfl) (by first | assumption | rfl | decide | omega) (by first | assumption | rfl | decide | omega) (by decide) rfl (by first | decide | omega) (by exact Nat.le_of_ble_eq_true rfl) (fun u51 D51 g51 => ?_)
      refine X_top (ba_cn g51.1) ?_
      refine X_istore (i := 7) (nx := 56) dX8_best_54 rfl (by decide) rfl (st_s (st_s (st_s (st_s (st_s (st_s (st_s (st_0)))))))) ?_
      refine X_iload (nx := 58) dX8_best_56 rfl rfl ?_
      refine X_iload (nx := 60) dX8_best_58 rfl rfl ?_
      refine X_icmp_lt (tgt := 95) (nx := 63) dX8_best_60 rfl rfl (fun h60 => ?_) (fun h60 => ?_)
      · skip
        have hA := rb_n (S := S) (R := R) (k := i) (fun q => q.elim (fun q => Int32.lt_asymm q h60) (fun q => Int32.lt_irrefl (q.1 ▸ h60)))
        have hf2 := (hf.tr hk1.2).tr (SCR.fr g51.2.2.1)
        first
        | (rw [← hA]
           refine X_iinc (nx := 98) dX8_best_95 rfl (by decide) rfl (ii1 _) rfl (st_s (st_s (st_s (st_s (st_s (st_s (st_0))))))) ?_
           refine X_goto (tgt := 34) dX8_best_98 rfl ?_
           exact ih (i + 1) _ _ _ (by omega) g51.2.1 hf2)
        | (refine X_iinc (nx := 98) dX8_best_95 rfl (by decide) rfl (ii1 _) rfl (st_s (st_s (st_s (st_s (st_s (st_s (st_0))))))) ?_
           refine X_goto (tgt := 34) dX8_best_98 rfl ?_
           have q := ih (i + 1) _ _ (some (.int (bcn S R i))) (by omega) g51.2.1 hf2
           rw [hB] at q
           exact q)
      · skip
        refine X_iload (nx := 65) dX8_best_63 rfl rfl ?_
        refine X_iload (nx := 67) dX8_best_65 rfl rfl ?_
        refine X_icmp_ne (tgt := 82) (nx := 70) dX8_best_67 rfl rfl (fun h67 => ?_) (fun h67 => ?_)
        · skip
          have hB := rb_y (S := S) (R := R) (k := i) (Or.inl (lt_tri h60 h67))
          refine X_iload (nx := 84) dX8_best_82 rfl rfl ?_
          refine X_istore_n (i := 3) (nx := 85) dX8_best_84 rfl rfl (by decide) rfl (st_s (st_s (st_s (st_0)))) ?_
          refine X_iload (nx := 87) dX8_best_85 rfl rfl ?_
          refine X_istore (i := 4) (nx := 89) dX8_best_87 rfl (by decide) rfl (st_s (st_s (st_s (st_s (st_0))))) ?_
          refine X_aload_n (nx := 90) dX8_best_89 rfl rfl rfl ?_
          refine M_getI (nx := 93) dX8_best_90 rfl fl_RX8_326 rfl (by first | assumption | rfl | decide | omega) (by first | assumption | rfl | decide | omega) ?_
          refine X_top (ba_sm g51.2) ?_
          refine X_istore (i := 5) (nx := 95) dX8_best_93 rfl (by decide) rfl (st_s (st_s (st_s (st_s (st_s (st_0)))))) ?_
          have hf2 := (hf.tr hk1.2).tr (SCR.fr g51.2.2.1)
          first
          | (rw [← hA]
             refine X_iinc (nx := 98) dX8_best_95 rfl (by decide) rfl (ii1 _) rfl (st_s (st_s (st_s (st_s (st_s (st_s (st_0))))))) ?_
             refine X_goto (tgt := 34) dX8_best_98 rfl ?_
             exact ih (i + 1) _ _ _ (by omega) g51.2.1 hf2)
          | (refine X_iinc (nx := 98) dX8_best_95 rfl (by decide) rfl (ii1 _) rfl (st_s (st_s (st_s (st_s (st_s (st_s (st_0))))))) ?_
             refine X_goto (tgt := 34) dX8_best_98 rfl ?_
             have q := ih (i + 1) _ _ (some (.int (bcn S R i))) (by omega) g51.2.1 hf2
             rw [hB] at q
             exact q)
        · skip
          refine X_aload_n (nx := 71) dX8_best_70 rfl rfl rfl ?_
          refine M_getI (nx := 74) dX8_best_71 rfl fl_RX8_326 rfl (by first | assumption | rfl | decide | omega) (by first | assumption | rfl | decide | omega) ?_
          refine X_top (ba_sm g51.2) ?_
          refine X_iload (nx := 76) dX8_best_74 rfl rfl ?_
          refine X_icmp_lt (tgt := 82) (nx := 79) dX8_best_76 rfl rfl (fun h76 => ?_) (fun h76 => ?_)
          · skip
            have hB := rb_y (S := S) (R := R) (k := i) (Or.inr ⟨h67, h76⟩)
            refine X_iload (nx := 84) dX8_best_82 rfl rfl ?_
            refine X_istore_n (i := 3) (nx := 85) dX8_best_84 rfl rfl (by decide) rfl (st_s (st_s (st_s (st_0)))) ?_
            refine X_iload (nx := 87) dX8_best_85 rfl rfl ?_
            refine X_istore (i := 4) (nx := 89) dX8_best_87 rfl (by decide) rfl (st_s (st_s (st_s (st_s (st_0))))) ?_
            refine X_aload_n (nx := 90) dX8_best_89 rfl rfl rfl ?_
            refine M_getI (nx := 93) dX8_best_90 rfl fl_RX8_326 rfl (by first | assumption | rfl | decide | omega) (by first | assumption | rfl | decide | omega) ?_
            refine X_top (ba_sm g51.2) ?_
            refine X_istore (i := 5) (nx := 95) dX8_best_93 rfl (by decide) rfl (st_s (st_s (st_s (st_s (st_s (st_0)))))) ?_
            have hf2 := (hf.tr hk1.2).tr (SCR.fr g51.2.2.1)
            first
            | (rw [← hA]
               refine X_iinc (nx := 98) dX8_best_95 rfl (by decide) rfl (ii1 _) rfl (st_s (st_s (st_s (st_s (st_s (st_s (st_0))))))) ?_
               refine X_goto (tgt := 34) dX8_best_98 rfl ?_
               exact ih (i + 1) _ _ _ (by omega) g51.2.1 hf2)
            | (refine X_iinc (nx := 98) dX8_best_95 rfl (by decide) rfl (ii1 _) rfl (st_s (st_s (st_s (st_s (st_s (st_s (st_0))))))) ?_
               refine X_goto (tgt := 34) dX8_best_98 rfl ?_
               have q := ih (i + 1) _ _ (some (.int (bcn S R i))) (by omega) g51.2.1 hf2
               rw [hB] at q
               exact q)
          · skip
            have hA := rb_n (S := S) (R := R) (k := i) (fun q => q.elim (fun q => Int32.lt_irrefl (h67 ▸ q)) (fun q => h76 q.2))
            refine X_goto (tgt := 95) dX8_best_79 rfl ?_
            have hf2 := (hf.tr hk1.2).tr (SCR.fr g51.2.2.1)
            first
            | (rw [← hA]
               refine X_iinc (nx := 98) dX8_best_95 rfl (by decide) rfl (ii1 _) rfl (st_s (st_s (st_s (st_s (st_s (st_s (st_0))))))) ?_
               refine X_goto (tgt := 34) dX8_best_98 rfl ?_
               exact ih (i + 1) _ _ _ (by omega) g51.2.1 hf2)
            | (refine X_iinc (nx := 98) dX8_best_95 rfl (by decide) rfl (ii1 _) rfl (st_s (st_s (st_s (st_s (st_s (st_s (st_0))))))) ?_
               refine X_goto (tgt := 34) dX8_best_98 rfl ?_
               have q := ih (i + 1) _ _ (some (.int (bcn S R i))) (by omega) g51.2.1 hf2
               rw [hB] at q
               exact q)
theorem sp_X8_best {x : Int32} {S : St} {D : Mem} (h : INV2 D S) (hw : WF S) : Rix 7 j_X8_best [.ref 104, .int x] D (fun u D' => CK2 D (m_best S x) u D') := by
  refine E.start 6 (ls := [some (.ref 104), some (.int x), none, none, none, none, none, none]) (by decide +kernel) (Nat.le_of_ble_eq_true rfl) rfl (Nat.le_refl _) (Nat.le_refl _) ?_
  have hcm := hw.1.2.1
  have hB2 := h.1.2.1
  refine X_iload_n (nx := 1) dX8_best_0 rfl rfl rfl ?_
  refine Y_Si1 (nx := 4) dX8_best_1 rfl ml_RX8_240 kj_X8_isRouter ks_X8_isRouter (sp_X8_isRouter) (by first | decide | omega) (by exact Nat.le_of_ble_eq_true rfl) ?_
  refine X_if_ne (tgt := 13) (nx := 7) dX8_best_4 rfl rfl (fun h4 => ?_) (fun h4 => ?_)
  · skip
    have c4 := b2i_t.mp h4
    obtain ⟨R, hR, rfl⟩ := ex_nI (N := 3) (n := 3) rfl (by decide) (of_decide_eq_true c4)
    have k4 : (nI R).toNatClampNeg = R := nI_clamp (by omega)
    refine X_aload_n (nx := 14) dX8_best_13 rfl rfl rfl ?_
    refine M_getP (nx := 17) dX8_best_14 rfl fl_RX8_13 rfl (by first | assumption | rfl | decide | omega) (by first | assumption | rfl | decide | omega) (by first | assumption | rfl | decide | omega) ?_
    refine X_iload_n (nx := 18) dX8_best_17 rfl rfl rfl ?_
    refine M_ld (a := 106) (L := 3) (nx := 19) dX8_best_18 rfl (by decide) (by decide) rfl (by decide) (by omega) ((h.1.1 R hR).1) ?_
    refine X_istore_n (i := 2) (nx := 20) dX8_best_19 rfl rfl (by decide) rfl (st_s (st_s (st_0))) ?_
    refine X_bipush (v := -9) (nx := 22) dX8_best_20 rfl rfl ?_
    refine X_istore_n (i := 3) (nx := 23) dX8_best_22 rfl rfl (by decide) rfl (st_s (st_s (st_s (st_0)))) ?_
    refine X_bipush (v := -9) (nx := 25) dX8_best_23 rfl rfl ?_
    refine X_istore (i := 4) (nx := 27) dX8_best_25 rfl (by decide) rfl (st_s (st_s (st_s (st_s (st_0))))) ?_
    refine X_bipush (v := -9) (nx := 29) dX8_best_27 rfl rfl ?_
    refine X_istore (i := 5) (nx := 31) dX8_best_29 rfl (by decide) rfl (st_s (st_s (st_s (st_s (st_s (st_0)))))) ?_
    refine X_iconst (v := 0) (nx := 32) dX8_best_31 rfl rfl ?_
    refine X_istore (i := 6) (nx := 34) dX8_best_32 rfl (by decide) rfl (st_s (st_s (st_s (st_s (st_s (st_s (st_0))))))) ?_
    (unfold m_best; rw [if_pos c4, k4]; have e := up1_id (f := kd_ (bk S)) (R := R); rw [← rbN_6]; have e2 := lp_X8_best hw hR 6 0 D (kd_ (bk S) R) none rfl (by rw [e]; exact h) Fr.rf; rw [rbN_0] at e2; exact e2)
  · skip
    have n4 := nb h4
    refine X_aload_n (nx := 8) dX8_best_7 rfl rfl rfl ?_
    refine X_iconst (v := -1) (nx := 9) dX8_best_8 rfl rfl ?_
    refine Y_Vi1 (nx := 12) dX8_best_9 rfl ml_RX8_211 kj_X8_no kv_X8_no (sp_X8_no (k := 1) rfl (by omega) (by omega)) (by first | assumption | rfl | decide | omega) (by first | assumption | rfl | decide | omega) (by decide) rfl (by first | decide | omega) (by exact Nat.le_of_ble_eq_true rfl) ?_
    exact Z_reti dX8_best_12 (Or.inl rfl) (by unfold m_best; rw [if_neg n4]; exact ck2_no (k := 1) h Fr.rf (by omega) (by omega))
theorem d01 {y : Int32} : decide (0 ≤ y ∧ y ≤ 1) = decide (y = 0 ∨ y = 1) := by
  refine decide_eq_decide.mpr ⟨fun q => ?_, fun q => ?_⟩
  · have h1 := q.1
    have h2 := q.2
    rw [Int32.le_iff_toInt_le] at h1 h2
    have e0 : (0 : Int32).toInt = 0 := by decide
    have e1 : (1 : Int32).toInt = 1 := by decide
    by_cases e : y.toInt = 0
    · exact Or.inl (Int32.toInt_inj.mp (e.trans e0.symm))
    · exact Or.inr (Int32.toInt_inj.mp (by omega))
  · rcases q with rfl | rfl <;> decide
theorem dX8_whatIs_0 : decode cX8_whatIs 0 = .ok (.iload_n 1, 1) := by decide +kernel
theorem dX8_whatIs_1 : decode cX8_whatIs 1 = .ok (.invokestatic 240, 3) := by decide +kernel
theorem dX8_whatIs_4 : decode cX8_whatIs 4 = .ok (.ifCond .ne 7, 3) := by decide +kernel
theorem dX8_whatIs_7 : decode cX8_whatIs 7 = .ok (.iconst (-1), 1) := by decide +kernel
theorem dX8_whatIs_8 : decode cX8_whatIs 8 = .ok (.goto 18, 3) := by decide +kernel
theorem dX8_whatIs_11 : decode cX8_whatIs 11 = .ok (.iload_n 2, 1) := by decide +kernel
theorem dX8_whatIs_12 : decode cX8_whatIs 12 = .ok (.iconst 0, 1) := by decide +kernel
theorem dX8_whatIs_13 : decode cX8_whatIs 13 = .ok (.iconst 1, 1) := by decide +kernel
theorem dX8_whatIs_14 : decode cX8_whatIs 14 = .ok (.invokestatic 115, 3) := by decide +kernel
theorem dX8_whatIs_17 : decode cX8_whatIs 17 = .ok (.ifCond .ne 8, 3) := by decide +kernel
theorem dX8_whatIs_20 : decode cX8_whatIs 20 = .ok (.bipush (-2), 2) := by decide +kernel
theorem dX8_whatIs_22 : decode cX8_whatIs 22 = .ok (.goto 4, 3) := by decide +kernel
theorem dX8_whatIs_25 : decode cX8_whatIs 25 = .ok (.iconst 0, 1) := by decide +kernel
theorem dX8_whatIs_26 : decode cX8_whatIs 26 = .ok (.istore_n 3, 1) := by decide +kernel
theorem dX8_whatIs_27 : decode cX8_whatIs 27 = .ok (.iload_n 3, 1) := by decide +kernel
theorem dX8_whatIs_28 : decode cX8_whatIs 28 = .ok (.ifCond .eq 9, 3) := by decide +kernel
theorem dX8_whatIs_31 : decode cX8_whatIs 31 = .ok (.aload_n 0, 1) := by decide +kernel
theorem dX8_whatIs_32 : decode cX8_whatIs 32 = .ok (.iload_n 3, 1) := by decide +kernel
theorem dX8_whatIs_33 : decode cX8_whatIs 33 = .ok (.invokevirtual 211, 3) := by decide +kernel
theorem dX8_whatIs_36 : decode cX8_whatIs 36 = .ok (.ireturn, 1) := by decide +kernel
theorem dX8_whatIs_37 : decode cX8_whatIs 37 = .ok (.aload_n 0, 1) := by decide +kernel
theorem dX8_whatIs_38 : decode cX8_whatIs 38 = .ok (.getfield 13, 3) := by decide +kernel
theorem dX8_whatIs_41 : decode cX8_whatIs 41 = .ok (.iload_n 1, 1) := by decide +kernel
theorem dX8_whatIs_42 : decode cX8_whatIs 42 = .ok (.iaload, 1) := by decide +kernel
theorem dX8_whatIs_43 : decode cX8_whatIs 43 = .ok (.istore 4, 2) := by decide +kernel
theorem dX8_whatIs_45 : decode cX8_whatIs 45 = .ok (.aload_n 0, 1) := by decide +kernel
theorem dX8_whatIs_46 : decode cX8_whatIs 46 = .ok (.getfield 16, 3) := by decide +kernel
theorem dX8_whatIs_49 : decode cX8_whatIs 49 = .ok (.iload_n 1, 1) := by decide +kernel
theorem dX8_whatIs_50 : decode cX8_whatIs 50 = .ok (.iaload, 1) := by decide +kernel
theorem dX8_whatIs_51 : decode cX8_whatIs 51 = .ok (.istore 5, 2) := by decide +kernel
theorem dX8_whatIs_53 : decode cX8_whatIs 53 = .ok (.iconst 0, 1) := by decide +kernel
theorem dX8_whatIs_54 : decode cX8_whatIs 54 = .ok (.istore 6, 2) := by decide +kernel
theorem dX8_whatIs_56 : decode cX8_whatIs 56 = .ok (.iconst 0, 1) := by decide +kernel
theorem dX8_whatIs_57 : decode cX8_whatIs 57 = .ok (.istore 7, 2) := by decide +kernel
theorem dX8_whatIs_59 : decode cX8_whatIs 59 = .ok (.iload 7, 2) := by decide +kernel
theorem dX8_whatIs_61 : decode cX8_whatIs 61 = .ok (.iload_n 2, 1) := by decide +kernel
theorem dX8_whatIs_62 : decode cX8_whatIs 62 = .ok (.ifCond .ne 8, 3) := by decide +kernel
theorem dX8_whatIs_65 : decode cX8_whatIs 65 = .ok (.bipush 6, 2) := by decide +kernel
theorem dX8_whatIs_67 : decode cX8_whatIs 67 = .ok (.goto 5, 3) := by decide +kernel
theorem dX8_whatIs_70 : decode cX8_whatIs 70 = .ok (.bipush 10, 2) := by decide +kernel
theorem dX8_whatIs_72 : decode cX8_whatIs 72 = .ok (.if_icmp .ge 53, 3) := by decide +kernel
theorem dX8_whatIs_75 : decode cX8_whatIs 75 = .ok (.iload_n 2, 1) := by decide +kernel
theorem dX8_whatIs_76 : decode cX8_whatIs 76 = .ok (.ifCond .ne 14, 3) := by decide +kernel
theorem dX8_whatIs_79 : decode cX8_whatIs 79 = .ok (.aload_n 0, 1) := by decide +kernel
theorem dX8_whatIs_80 : decode cX8_whatIs 80 = .ok (.getfield 13, 3) := by decide +kernel
theorem dX8_whatIs_83 : decode cX8_whatIs 83 = .ok (.iload_n 1, 1) := by decide +kernel
theorem dX8_whatIs_84 : decode cX8_whatIs 84 = .ok (.iload 7, 2) := by decide +kernel
theorem dX8_whatIs_86 : decode cX8_whatIs 86 = .ok (.iastore, 1) := by decide +kernel
theorem dX8_whatIs_87 : decode cX8_whatIs 87 = .ok (.goto 11, 3) := by decide +kernel
theorem dX8_whatIs_90 : decode cX8_whatIs 90 = .ok (.aload_n 0, 1) := by decide +kernel
theorem dX8_whatIs_91 : decode cX8_whatIs 91 = .ok (.getfield 16, 3) := by decide +kernel
theorem dX8_whatIs_94 : decode cX8_whatIs 94 = .ok (.iload_n 1, 1) := by decide +kernel
theorem dX8_whatIs_95 : decode cX8_whatIs 95 = .ok (.iload 7, 2) := by decide +kernel
theorem dX8_whatIs_97 : decode cX8_whatIs 97 = .ok (.iastore, 1) := by decide +kernel
theorem dX8_whatIs_98 : decode cX8_whatIs 98 = .ok (.iload 6, 2) := by decide +kernel
theorem dX8_whatIs_100 : decode cX8_whatIs 100 = .ok (.aload_n 0, 1) := by decide +kernel
theorem dX8_whatIs_101 : decode cX8_whatIs 101 = .ok (.iconst 0, 1) := by decide +kernel
theorem dX8_whatIs_102 : decode cX8_whatIs 102 = .ok (.invokevirtual 380, 3) := by decide +kernel
theorem dX8_whatIs_105 : decode cX8_whatIs 105 = .ok (.ifCond .ge 10, 3) := by decide +kernel
theorem dX8_whatIs_108 : decode cX8_whatIs 108 = .ok (.iconst 1, 1) := by decide +kernel
theorem dX8_whatIs_109 : decode cX8_whatIs 109 = .ok (.iload 7, 2) := by decide +kernel
theorem dX8_whatIs_111 : decode cX8_whatIs 111 = .ok (.ishl, 1) := by decide +kernel
theorem dX8_whatIs_112 : decode cX8_whatIs 112 = .ok (.goto 4, 3) := by decide +kernel
theorem dX8_whatIs_115 : decode cX8_whatIs 115 = .ok (.iconst 0, 1) := by decide +kernel
theorem dX8_whatIs_116 : decode cX8_whatIs 116 = .ok (.ior, 1) := by decide +kernel
theorem dX8_whatIs_117 : decode cX8_whatIs 117 = .ok (.istore 6, 2) := by decide +kernel
theorem dX8_whatIs_119 : decode cX8_whatIs 119 = .ok (.iinc 7 1, 3) := by decide +kernel
theorem dX8_whatIs_122 : decode cX8_whatIs 122 = .ok (.goto (-63), 3) := by decide +kernel
theorem dX8_whatIs_125 : decode cX8_whatIs 125 = .ok (.aload_n 0, 1) := by decide +kernel
theorem dX8_whatIs_126 : decode cX8_whatIs 126 = .ok (.getfield 13, 3) := by decide +kernel
theorem dX8_whatIs_129 : decode cX8_whatIs 129 = .ok (.iload_n 1, 1) := by decide +kernel
theorem dX8_whatIs_130 : decode cX8_whatIs 130 = .ok (.iload 4, 2) := by decide +kernel
theorem dX8_whatIs_132 : decode cX8_whatIs 132 = .ok (.iastore, 1) := by decide +kernel
theorem dX8_whatIs_133 : decode cX8_whatIs 133 = .ok (.aload_n 0, 1) := by decide +kernel
theorem dX8_whatIs_134 : decode cX8_whatIs 134 = .ok (.getfield 16, 3) := by decide +kernel
theorem dX8_whatIs_137 : decode cX8_whatIs 137 = .ok (.iload_n 1, 1) := by decide +kernel
theorem dX8_whatIs_138 : decode cX8_whatIs 138 = .ok (.iload 5, 2) := by decide +kernel
theorem dX8_whatIs_140 : decode cX8_whatIs 140 = .ok (.iastore, 1) := by decide +kernel
theorem dX8_whatIs_141 : decode cX8_whatIs 141 = .ok (.iload 6, 2) := by decide +kernel
theorem dX8_whatIs_143 : decode cX8_whatIs 143 = .ok (.ireturn, 1) := by decide +kernel
theorem lp_X8_whatIs0 {S : St} {D : Mem} {R : Nat} {z : Int32} (hw : WF S) (hR : R < 3) : ∀ (m : Nat) (i : Nat) (D1 : Mem) (l : Nat), i + m = 6 → INVT D1 S (th_ (bk S)) (up1 (kd_ (bk S)) R l) (fg_ (bk S)) → Fr inR D D1 → X 7 138 j_X8_whatIs 59 [some (.ref 104), some (.int (nI R)), some (.int 0), some (.int z), some (.int (nI (kd_ (bk S) R))), some (.int (nI (fg_ (bk S) R))), some (.int (nI (mkn (wiK S R) i))), some (.int (nI i))] [] (138, P0, D1) (fun x σ => ∃ (u : Int32) (D' : Mem), x = [.int u] ∧ σ = wd D' ∧ CK2 D (nI (mkn (wiK S R) 6), S) u D') := by
  intro m
  induction m with
  | zero =>
    intro i D1 l hi h hf
    refine X_iload (nx := 61) dX8_whatIs_59 rfl rfl ?_
    refine X_iload_n (nx := 62) dX8_whatIs_61 rfl rfl rfl ?_
    refine X_if_ne (tgt := 70) (nx := 65) dX8_whatIs_62 rfl rfl (fun h62 => ?_) (fun h62 => ?_)
    · exact absurd h62 (by decide)
    · skip
      refine X_bipush (v := nI 6) (nx := 67) dX8_whatIs_65 rfl rfl ?_
      refine X_goto (tgt := 72) dX8_whatIs_67 rfl ?_
      refine X_icmp_ge (tgt := 125) (nx := 75) dX8_whatIs_72 rfl rfl (fun h72 => ?_) (fun h72 => ?_)
      · skip
        refine X_aload_n (nx := 126) dX8_whatIs_125 rfl rfl rfl ?_
        refine M_getP (nx := 129) dX8_whatIs_126 rfl fl_RX8_13 rfl (by first | assumption | rfl | decide | omega) (by first | assumption | rfl | decide | omega) (by first | assumption | rfl | decide | omega) ?_
        refine X_iload_n (nx := 130) dX8_whatIs_129 rfl rfl rfl ?_
        refine X_iload (nx := 132) dX8_whatIs_130 rfl rfl ?_
        refine M_st (a := 106) (L := 3) (nx := 133) dX8_whatIs_132 rfl (by decide) (by decide) rfl (by decide) (by omega) ?_
        refine X_aload_n (nx := 134) dX8_whatIs_133 rfl rfl rfl ?_
        refine M_getP (nx := 137) dX8_whatIs_134 rfl fl_RX8_16 rfl (by first | assumption | rfl | decide | omega) (by first | assumption | rfl | decide | omega) (by first | assumption | rfl | decide | omega) ?_
        refine X_iload_n (nx := 138) dX8_whatIs_137 rfl rfl rfl ?_
        refine X_iload (nx := 140) dX8_whatIs_138 rfl rfl ?_
        refine M_st (a := 107) (L := 3) (nx := 141) dX8_whatIs_140 rfl (by decide) (by decide) rfl (by decide) (by omega) ?_
        refine X_iload (nx := 143) dX8_whatIs_141 rfl rfl ?_
        exact Z_reti dX8_whatIs_143 (Or.inl rfl) (by obtain rfl : i = 6 := (by omega); have hx := inv_K1 (k := kd_ (bk S) R) h; rw [up1_id] at hx; have hy := inv_F1 (k := fg_ (bk S) R) (l := fg_ (bk S) R) (f := fg_ (bk S)) (R := R) (by rw [up1_id]; exact hx.1); rw [up1_id] at hy; exact ck2_s rfl hy.1 ((hf.tr hx.2).tr hy.2))
      · exact absurd h72 (fun q => q (nI_le (by omega) (by omega)))
  | succ m ih =>
    intro i D1 l hi h hf
    refine X_iload (nx := 61) dX8_whatIs_59 rfl rfl ?_
    refine X_iload_n (nx := 62) dX8_whatIs_61 rfl rfl rfl ?_
    refine X_if_ne (tgt := 70) (nx := 65) dX8_whatIs_62 rfl rfl (fun h62 => ?_) (fun h62 => ?_)
    · exact absurd h62 (by decide)
    · skip
      refine X_bipush (v := nI 6) (nx := 67) dX8_whatIs_65 rfl rfl ?_
      refine X_goto (tgt := 72) dX8_whatIs_67 rfl ?_
      refine X_icmp_ge (tgt := 125) (nx := 75) dX8_whatIs_72 rfl rfl (fun h72 => ?_) (fun h72 => ?_)
      · exact absurd h72 (nI_ge (by omega) (by omega))
      · skip
        refine X_iload_n (nx := 76) dX8_whatIs_75 rfl rfl rfl ?_
        refine X_if_ne (tgt := 90) (nx := 79) dX8_whatIs_76 rfl rfl (fun h76 => ?_) (fun h76 => ?_)
        · exact absurd h76 (by decide)
        · skip
          refine X_aload_n (nx := 80) dX8_whatIs_79 rfl rfl rfl ?_
          refine M_getP (nx := 83) dX8_whatIs_80 rfl fl_RX8_13 rfl (by first | assumption | rfl | decide | omega) (by first | assumption | rfl | decide | omega) (by first | assumption | rfl | decide | omega) ?_
          refine X_iload_n (nx := 84) dX8_whatIs_83 rfl rfl rfl ?_
          refine X_iload (nx := 86) dX8_whatIs_84 rfl rfl ?_
          refine M_st (a := 106) (L := 3) (nx := 87) dX8_whatIs_86 rfl (by decide) (by decide) rfl (by decide) (by omega) ?_
          have hk1 := inv_K1 (k := i) h
          refine X_goto (tgt := 98) dX8_whatIs_87 rfl ?_
          refine X_iload (nx := 100) dX8_whatIs_98 rfl rfl ?_
          refine X_aload_n (nx := 101) dX8_whatIs_100 rfl rfl rfl ?_
          refine X_iconst (v := 0) (nx := 102) dX8_whatIs_101 rfl rfl ?_
          refine Z_Vi1 (nx := 105) dX8_whatIs_102 rfl ml_RX8_380 kj_X8_firstWrong kv_X8_firstWrong (sp_X8_firstWrong (v := 0) hw (up1_K hw.1.1 (by omega)) (by omega) hk1.1 rfl) (by first | assumption | rfl | decide | omega) (by first | assumption | rfl | decide | omega) (by decide) rfl (by first | decide | omega) (by exact Nat.le_of_ble_eq_true rfl) (fun u102 D102 g102 => ?_)
          refine X_if_ge (tgt := 115) (nx := 108) dX8_whatIs_105 rfl rfl (fun h105 => ?_) (fun h105 => ?_)
          · skip
            have hz : wiK S R i = false := fns_s g102.1 h105
            refine X_iconst (v := 0) (nx := 116) dX8_whatIs_115 rfl rfl ?_
            refine X_ior (nx := 117) dX8_whatIs_116 rfl ?_
            refine X_top (show _ = nI (mkn (wiK S R) (i + 1)) from (by first | exact ior_step hz (by omega) | exact or_f hz)) ?_
            refine X_istore (i := 6) (nx := 119) dX8_whatIs_117 rfl (by decide) rfl (st_s (st_s (st_s (st_s (st_s (st_s (st_0))))))) ?_
            refine X_iinc (nx := 122) dX8_whatIs_119 rfl (by decide) rfl (by first | exact ii1 _ | rfl) rfl (st_s (st_s (st_s (st_s (st_s (st_s (st_s (st_0)))))))) ?_
            refine X_goto (tgt := 59) dX8_whatIs_122 rfl ?_
            exact ih (i + 1) D102 _ (by omega) g102.2.1 ((hf.tr hk1.2).tr (SCR.fr g102.2.2))
          · skip
            have hz : wiK S R i = true := fns_n hw.2.2.2.2.1 g102.1 h105
            refine X_iconst (v := 1) (nx := 109) dX8_whatIs_108 rfl rfl ?_
            refine X_iload (nx := 111) dX8_whatIs_109 rfl rfl ?_
            refine X_ishl (nx := 112) dX8_whatIs_111 rfl ?_
            refine X_goto (tgt := 116) dX8_whatIs_112 rfl ?_
            refine X_ior (nx := 117) dX8_whatIs_116 rfl ?_
            refine X_top (show _ = nI (mkn (wiK S R) (i + 1)) from (by first | exact ior_step hz (by omega) | exact or_f hz)) ?_
            refine X_istore (i := 6) (nx := 119) dX8_whatIs_117 rfl (by decide) rfl (st_s (st_s (st_s (st_s (st_s (st_s (st_0))))))) ?_
            refine X_iinc (nx := 122) dX8_whatIs_119 rfl (by decide) rfl (by first | exact ii1 _ | rfl) rfl (st_s (st_s (st_s (st_s (st_s (st_s (st_s (st_0)))))))) ?_
            refine X_goto (tgt := 59) dX8_whatIs_122 rfl ?_
            exact ih (i + 1) D102 _ (by omega) g102.2.1 ((hf.tr hk1.2).tr (SCR.fr g102.2.2))
theorem lp_X8_whatIs1 {S : St} {D : Mem} {R : Nat} {z : Int32} (hw : WF S) (hR : R < 3) : ∀ (m : Nat) (i : Nat) (D1 : Mem) (l : Nat), i + m = 10 → INVT D1 S (th_ (bk S)) (kd_ (bk S)) (up1 (fg_ (bk S)) R l) → Fr inR D D1 → X 7 138 j_X8_whatIs 59 [some (.ref 104), some (.int (nI R)), some (.int 1), some (.int z), some (.int (nI (kd_ (bk S) R))), some (.int (nI (fg_ (bk S) R))), some (.int (nI (mkn (wiF S R) i))), some (.int (nI i))] [] (138, P0, D1) (fun x σ => ∃ (u : Int32) (D' : Mem), x = [.int u] ∧ σ = wd D' ∧ CK2 D (nI (mkn (wiF S R) 10), S) u D') := by
  intro m
  induction m with
  | zero =>
    intro i D1 l hi h hf
    refine X_iload (nx := 61) dX8_whatIs_59 rfl rfl ?_
    refine X_iload_n (nx := 62) dX8_whatIs_61 rfl rfl rfl ?_
    refine X_if_ne (tgt := 70) (nx := 65) dX8_whatIs_62 rfl rfl (fun h62 => ?_) (fun h62 => ?_)
    · skip
      refine X_bipush (v := nI 10) (nx := 72) dX8_whatIs_70 rfl rfl ?_
      refine X_icmp_ge (tgt := 125) (nx := 75) dX8_whatIs_72 rfl rfl (fun h72 => ?_) (fun h72 => ?_)
      · skip
        refine X_aload_n (nx := 126) dX8_whatIs_125 rfl rfl rfl ?_
        refine M_getP (nx := 129) dX8_whatIs_126 rfl fl_RX8_13 rfl (by first | assumption | rfl | decide | omega) (by first | assumption | rfl | decide | omega) (by first | assumption | rfl | decide | omega) ?_
        refine X_iload_n (nx := 130) dX8_whatIs_129 rfl rfl rfl ?_
        refine X_iload (nx := 132) dX8_whatIs_130 rfl rfl ?_
        refine M_st (a := 106) (L := 3) (nx := 133) dX8_whatIs_132 rfl (by decide) (by decide) rfl (by decide) (by omega) ?_
        refine X_aload_n (nx := 134) dX8_whatIs_133 rfl rfl rfl ?_
        refine M_getP (nx := 137) dX8_whatIs_134 rfl fl_RX8_16 rfl (by first | assumption | rfl | decide | omega) (by first | assumption | rfl | decide | omega) (by first | assumption | rfl | decide | omega) ?_
        refine X_iload_n (nx := 138) dX8_whatIs_137 rfl rfl rfl ?_
        refine X_iload (nx := 140) dX8_whatIs_138 rfl rfl ?_
        refine M_st (a := 107) (L := 3) (nx := 141) dX8_whatIs_140 rfl (by decide) (by decide) rfl (by decide) (by omega) ?_
        refine X_iload (nx := 143) dX8_whatIs_141 rfl rfl ?_
        exact Z_reti dX8_whatIs_143 (Or.inl rfl) (by obtain rfl : i = 10 := (by omega); have hx := inv_K1 (k := kd_ (bk S) R) (l := kd_ (bk S) R) (f := kd_ (bk S)) (R := R) (by rw [up1_id]; exact h); rw [up1_id] at hx; have hy := inv_F1 (k := fg_ (bk S) R) hx.1; rw [up1_id] at hy; exact ck2_s rfl hy.1 ((hf.tr hx.2).tr hy.2))
      · exact absurd h72 (fun q => q (nI_le (by omega) (by omega)))
    · exact absurd h62 (by decide)
  | succ m ih =>
    intro i D1 l hi h hf
    refine X_iload (nx := 61) dX8_whatIs_59 rfl rfl ?_
    refine X_iload_n (nx := 62) dX8_whatIs_61 rfl rfl rfl ?_
    refine X_if_ne (tgt := 70) (nx := 65) dX8_whatIs_62 rfl rfl (fun h62 => ?_) (fun h62 => ?_)
    · skip
      refine X_bipush (v := nI 10) (nx := 72) dX8_whatIs_70 rfl rfl ?_
      refine X_icmp_ge (tgt := 125) (nx := 75) dX8_whatIs_72 rfl rfl (fun h72 => ?_) (fun h72 => ?_)
      · exact absurd h72 (nI_ge (by omega) (by omega))
      · skip
        refine X_iload_n (nx := 76) dX8_whatIs_75 rfl rfl rfl ?_
        refine X_if_ne (tgt := 90) (nx := 79) dX8_whatIs_76 rfl rfl (fun h76 => ?_) (fun h76 => ?_)
        · skip
          refine X_aload_n (nx := 91) dX8_whatIs_90 rfl rfl rfl ?_
          refine M_getP (nx := 94) dX8_whatIs_91 rfl fl_RX8_16 rfl (by first | assumption | rfl | decide | omega) (by first | assumption | rfl | decide | omega) (by first | assumption | rfl | decide | omega) ?_
          refine X_iload_n (nx := 95) dX8_whatIs_94 rfl rfl rfl ?_
          refine X_iload (nx := 97) dX8_whatIs_95 rfl rfl ?_
          refine M_st (a := 107) (L := 3) (nx := 98) dX8_whatIs_97 rfl (by decide) (by decide) rfl (by decide) (by omega) ?_
          have hk1 := inv_F1 (k := i) h
          refine X_iload (nx := 100) dX8_whatIs_98 rfl rfl ?_
          refine X_aload_n (nx := 101) dX8_whatIs_100 rfl rfl rfl ?_
          refine X_iconst (v := 0) (nx := 102) dX8_whatIs_101 rfl rfl ?_
          refine Z_Vi1 (nx := 105) dX8_whatIs_102 rfl ml_RX8_380 kj_X8_firstWrong kv_X8_firstWrong (sp_X8_firstWrong (v := 0) hw (up1_F hw.1.1 (by omega)) (by omega) hk1.1 rfl) (by first | assumption | rfl | decide | omega) (by first | assumption | rfl | decide | omega) (by decide) rfl (by first | decide | omega) (by exact Nat.le_of_ble_eq_true rfl) (fun u102 D102 g102 => ?_)
          refine X_if_ge (tgt := 115) (nx := 108) dX8_whatIs_105 rfl rfl (fun h105 => ?_) (fun h105 => ?_)
          · skip
            have hz : wiF S R i = false := fns_s g102.1 h105
            refine X_iconst (v := 0) (nx := 116) dX8_whatIs_115 rfl rfl ?_
            refine X_ior (nx := 117) dX8_whatIs_116 rfl ?_
            refine X_top (show _ = nI (mkn (wiF S R) (i + 1)) from (by first | exact ior_step hz (by omega) | exact or_f hz)) ?_
            refine X_istore (i := 6) (nx := 119) dX8_whatIs_117 rfl (by decide) rfl (st_s (st_s (st_s (st_s (st_s (st_s (st_0))))))) ?_
            refine X_iinc (nx := 122) dX8_whatIs_119 rfl (by decide) rfl (by first | exact ii1 _ | rfl) rfl (st_s (st_s (st_s (st_s (st_s (st_s (st_s (st_0)))))))) ?_
            refine X_goto (tgt := 59) dX8_whatIs_122 rfl ?_
            exact ih (i + 1) D102 _ (by omega) g102.2.1 ((hf.tr hk1.2).tr (SCR.fr g102.2.2))
          · skip
            have hz : wiF S R i = true := fns_n hw.2.2.2.2.1 g102.1 h105
            refine X_iconst (v := 1) (nx := 109) dX8_whatIs_108 rfl rfl ?_
            refine X_iload (nx := 111) dX8_whatIs_109 rfl rfl ?_
            refine X_ishl (nx := 112) dX8_whatIs_111 rfl ?_
            refine X_goto (tgt := 116) dX8_whatIs_112 rfl ?_
            refine X_ior (nx := 117) dX8_whatIs_116 rfl ?_
            refine X_top (show _ = nI (mkn (wiF S R) (i + 1)) from (by first | exact ior_step hz (by omega) | exact or_f hz)) ?_
            refine X_istore (i := 6) (nx := 119) dX8_whatIs_117 rfl (by decide) rfl (st_s (st_s (st_s (st_s (st_s (st_s (st_0))))))) ?_
            refine X_iinc (nx := 122) dX8_whatIs_119 rfl (by decide) rfl (by first | exact ii1 _ | rfl) rfl (st_s (st_s (st_s (st_s (st_s (st_s (st_s (st_0)))))))) ?_
            refine X_goto (tgt := 59) dX8_whatIs_122 rfl ?_
            exact ih (i + 1) D102 _ (by omega) g102.2.1 ((hf.tr hk1.2).tr (SCR.fr g102.2.2))
        · exact absurd h76 (by decide)
    · exact absurd h62 (by decide)
theorem sp_X8_whatIs {x y : Int32} {S : St} {D : Mem} (h : INV2 D S) (hw : WF S) : Rix 7 j_X8_whatIs [.ref 104, .int x, .int y] D (fun u D' => CK2 D (m_whatIs S x y) u D') := by
  refine E.start 5 (ls := [some (.ref 104), some (.int x), some (.int y), none, none, none, none, none]) (by decide +kernel) (Nat.le_of_ble_eq_true rfl) rfl (Nat.le_refl _) (Nat.le_refl _) ?_
  have hcm := hw.1.2.1
  have hB2 := h.1.2.1
  refine X_iload_n (nx := 1) dX8_whatIs_0 rfl rfl rfl ?_
  refine Y_Si1 (nx := 4) dX8_whatIs_1 rfl ml_RX8_240 kj_X8_isRouter ks_X8_isRouter (sp_X8_isRouter) (by first | decide | omega) (by exact Nat.le_of_ble_eq_true rfl) ?_
  refine X_if_ne (tgt := 11) (nx := 7) dX8_whatIs_4 rfl rfl (fun h4 => ?_) (fun h4 => ?_)
  · skip
    have c4 := b2i_t.mp h4
    obtain ⟨R, hR, rfl⟩ := ex_nI (N := 3) (n := 3) rfl (by decide) (of_decide_eq_true c4)
    have k4 : (nI R).toNatClampNeg = R := nI_clamp (by omega)
    refine X_iload_n (nx := 12) dX8_whatIs_11 rfl rfl rfl ?_
    refine X_iconst (v := 0) (nx := 13) dX8_whatIs_12 rfl rfl ?_
    refine X_iconst (v := 1) (nx := 14) dX8_whatIs_13 rfl rfl ?_
    refine Y_Si3 (nx := 17) dX8_whatIs_14 rfl ml_RX8_115 kj_X8_isIn ks_X8_isIn (sp_X8_isIn) (by first | decide | omega) (by exact Nat.le_of_ble_eq_true rfl) ?_
    refine X_top (congrArg b2i d01) ?_
    refine X_if_ne (tgt := 25) (nx := 20) dX8_whatIs_17 rfl rfl (fun h17 => ?_) (fun h17 => ?_)
    · skip
      have c17 := b2i_t.mp h17
      refine X_iconst (v := 0) (nx := 26) dX8_whatIs_25 rfl rfl ?_
      refine X_istore_n (i := 3) (nx := 27) dX8_whatIs_26 rfl rfl (by decide) rfl (st_s (st_s (st_s (st_0)))) ?_
      refine X_iload_n (nx := 28) dX8_whatIs_27 rfl rfl rfl ?_
      refine X_if_eq (tgt := 37) (nx := 31) dX8_whatIs_28 rfl rfl (fun h28 => ?_) (fun h28 => ?_)
      · skip
        refine X_aload_n (nx := 38) dX8_whatIs_37 rfl rfl rfl ?_
        refine M_getP (nx := 41) dX8_whatIs_38 rfl fl_RX8_13 rfl (by first | assumption | rfl | decide | omega) (by first | assumption | rfl | decide | omega) (by first | assumption | rfl | decide | omega) ?_
        refine X_iload_n (nx := 42) dX8_whatIs_41 rfl rfl rfl ?_
        refine M_ld (a := 106) (L := 3) (nx := 43) dX8_whatIs_42 rfl (by decide) (by decide) rfl (by decide) (by omega) ((h.1.1 R hR).1) ?_
        refine X_istore (i := 4) (nx := 45) dX8_whatIs_43 rfl (by decide) rfl (st_s (st_s (st_s (st_s (st_0))))) ?_
        refine X_aload_n (nx := 46) dX8_whatIs_45 rfl rfl rfl ?_
        refine M_getP (nx := 49) dX8_whatIs_46 rfl fl_RX8_16 rfl (by first | assumption | rfl | decide | omega) (by first | assumption | rfl | decide | omega) (by first | assumption | rfl | decide | omega) ?_
        refine X_iload_n (nx := 50) dX8_whatIs_49 rfl rfl rfl ?_
        refine M_ld (a := 107) (L := 3) (nx := 51) dX8_whatIs_50 rfl (by decide) (by decide) rfl (by decide) (by omega) ((h.1.1 R hR).2) ?_
        refine X_istore (i := 5) (nx := 53) dX8_whatIs_51 rfl (by decide) rfl (st_s (st_s (st_s (st_s (st_s (st_0)))))) ?_
        refine X_iconst (v := 0) (nx := 54) dX8_whatIs_53 rfl rfl ?_
        refine X_istore (i := 6) (nx := 56) dX8_whatIs_54 rfl (by decide) rfl (st_s (st_s (st_s (st_s (st_s (st_s (st_0))))))) ?_
        refine X_iconst (v := 0) (nx := 57) dX8_whatIs_56 rfl rfl ?_
        refine X_istore (i := 7) (nx := 59) dX8_whatIs_57 rfl (by decide) rfl (st_s (st_s (st_s (st_s (st_s (st_s (st_s (st_0)))))))) ?_
        unfold m_whatIs
        rw [if_pos c4, if_pos c17, k4]
        rcases of_decide_eq_true c17 with rfl | rfl
        · rw [if_pos rfl]
          exact lp_X8_whatIs0 hw hR 6 0 D (kd_ (bk S) R) rfl (by rw [up1_id]; exact h) Fr.rf
        · rw [if_neg (by decide)]
          exact lp_X8_whatIs1 hw hR 10 0 D (fg_ (bk S) R) rfl (by rw [up1_id]; exact h) Fr.rf
      · exact absurd h28 (by decide)
    · skip
      have n17 := nb h17
      refine X_bipush (v := -2) (nx := 22) dX8_whatIs_20 rfl rfl ?_
      refine X_goto (tgt := 26) dX8_whatIs_22 rfl ?_
      refine X_istore_n (i := 3) (nx := 27) dX8_whatIs_26 rfl rfl (by decide) rfl (st_s (st_s (st_s (st_0)))) ?_
      refine X_iload_n (nx := 28) dX8_whatIs_27 rfl rfl rfl ?_
      refine X_if_eq (tgt := 37) (nx := 31) dX8_whatIs_28 rfl rfl (fun h28 => ?_) (fun h28 => ?_)
      · exact absurd h28 (by decide)
      · skip
        refine X_aload_n (nx := 32) dX8_whatIs_31 rfl rfl rfl ?_
        refine X_iload_n (nx := 33) dX8_whatIs_32 rfl rfl rfl ?_
        refine Y_Vi1 (nx := 36) dX8_whatIs_33 rfl ml_RX8_211 kj_X8_no kv_X8_no (by first | exact sp_X8_no (k := 1) rfl (by omega) (by omega) | exact sp_X8_no (k := 2) rfl (by omega) (by omega)) (by first | assumption | rfl | decide | omega) (by first | assumption | rfl | decide | omega) (by decide) rfl (by first | decide | omega) (by exact Nat.le_of_ble_eq_true rfl) ?_
        exact Z_reti dX8_whatIs_36 (Or.inl rfl) (by unfold m_whatIs; first | (rw [if_neg n4]; exact ck2_no (k := 1) h Fr.rf (by omega) (by omega)) | (rw [if_pos c4, if_neg n17]; exact ck2_no (k := 2) h Fr.rf (by omega) (by omega)))
  · skip
    have n4 := nb h4
    refine X_iconst (v := -1) (nx := 8) dX8_whatIs_7 rfl rfl ?_
    refine X_goto (tgt := 26) dX8_whatIs_8 rfl ?_
    refine X_istore_n (i := 3) (nx := 27) dX8_whatIs_26 rfl rfl (by decide) rfl (st_s (st_s (st_s (st_0)))) ?_
    refine X_iload_n (nx := 28) dX8_whatIs_27 rfl rfl rfl ?_
    refine X_if_eq (tgt := 37) (nx := 31) dX8_whatIs_28 rfl rfl (fun h28 => ?_) (fun h28 => ?_)
    · exact absurd h28 (by decide)
    · skip
      refine X_aload_n (nx := 32) dX8_whatIs_31 rfl rfl rfl ?_
      refine X_iload_n (nx := 33) dX8_whatIs_32 rfl rfl rfl ?_
      refine Y_Vi1 (nx := 36) dX8_whatIs_33 rfl ml_RX8_211 kj_X8_no kv_X8_no (by first | exact sp_X8_no (k := 1) rfl (by omega) (by omega) | exact sp_X8_no (k := 2) rfl (by omega) (by omega)) (by first | assumption | rfl | decide | omega) (by first | assumption | rfl | decide | omega) (by decide) rfl (by first | decide | omega) (by exact Nat.le_of_ble_eq_true rfl) ?_
      exact Z_reti dX8_whatIs_36 (Or.inl rfl) (by unfold m_whatIs; first | (rw [if_neg n4]; exact ck2_no (k := 1) h Fr.rf (by omega) (by omega)) | (rw [if_pos c4, if_neg n17]; exact ck2_no (k := 2) h Fr.rf (by omega) (by omega)))
