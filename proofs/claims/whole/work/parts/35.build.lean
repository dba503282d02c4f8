/-! PATHS BUILT -/
def lyl (s : List Nat) (g : Nat → Nat) (i : Nat) : Nat := if s.getD i 0 < 10 then s.getD i 0 else g (s.getD i 0 % 10)
def layI (s : List Nat) (g : Nat → Nat) : Nat → Nat → List Nat → Option (List Nat)
  | _, 0, M => some M
  | i, n + 1, M => if fitT (typ (s.getD i 0)) (lyl s g i) = true ∧ M.length < 4 then layI s g (i + 1) n (M ++ [lyl s g i]) else none
def layR (B : Bk) (g : Nat → Nat) (r : Nat) (M : List Nat) : Option (List Nat) := layI (sg_ B r) g 0 (pl (sg_ B r)) M
def lwN (B : Bk) (g : Nat → Nat) : Nat → Nat → List Nat → Option (List Nat)
  | 0, R, M => if R = 0 then some M else none
  | n + 1, R, M => if R = 0 then some M else match wy B 2 R with
    | none => none
    | some m => match lwN B g n (ro_ B m) M with
      | none => none
      | some M' => layR B g m M'
def pathB (B : Bk) (g : Nat → Nat) (r : Nat) : Option (List Nat) := match lwN B g 3 (ro_ B r) [] with
  | none => none
  | some M => layR B g r M
def GV (D : Mem) (g : Nat → Nat) : Prop := ∀ k, k < 4 → D 102 k = nI (g k) ∧ g k < 4
def LAY (D : Mem) (u : Int32) (o : Option (List Nat)) : Prop := match o with
  | some M => u = 1 ∧ LET D 100 M
  | none => u = 0
def inL (b : Nat) : Prop := b = 100 ∨ b = 101
theorem INVK.frL {D D' : Mem} {S : St} {K F : Nat → Nat} (h : INVK D S K F) (hf : Fr inL D D') : INVK D' S K F := h.fr (hf.mono (fun b hb => by unfold inL at hb; unfold inS; omega)) (by rw [hf 95 (by unfold inL; omega)])
theorem GV.frL {D D' : Mem} {g : Nat → Nat} (h : GV D g) (hf : Fr inL D D') : GV D' g := by unfold GV; rw [hf 102 (by unfold inL; omega)]; exact h
theorem lyl_lt {s : List Nat} {g : Nat → Nat} {i : Nat} (hs : VS s) (hi : i < pl s) (hg : ∀ k, k < 4 → g k < 4) : lyl s g i < 4 ∧ (s.getD i 0 < 10 ∨ s.getD i 0 % 10 < 4) := by
  obtain ⟨h1, h2⟩ := hs.plain hi
  unfold sgv at h1
  unfold lyl
  split
  · exact ⟨by omega, by omega⟩
  · exact ⟨hg _ (by omega), by omega⟩
theorem lay_zn {D : Mem} {S : St} {s : List Nat} {g : Nat → Nat} {i n : Nat} {M : List Nat} {D0 : Mem} (hf : Fr inL D0 D) (h : ¬ (fitT (typ (s.getD i 0)) (lyl s g i) = true ∧ M.length < 4)) : Fr inL D0 D ∧ LAY D 0 (layI s g i (n + 1) M) := by
  refine ⟨hf, ?_⟩
  rw [show layI s g i (n + 1) M = none from if_neg h]
  exact rfl
theorem dX7_lay_0 : decode cX7_lay 0 = .ok (.iconst 0, 1) := by decide +kernel
theorem dX7_lay_1 : decode cX7_lay 1 = .ok (.istore_n 2, 1) := by decide +kernel
theorem dX7_lay_2 : decode cX7_lay 2 = .ok (.iload_n 2, 1) := by decide +kernel
theorem dX7_lay_3 : decode cX7_lay 3 = .ok (.aload_n 1, 1) := by decide +kernel
theorem dX7_lay_4 : decode cX7_lay 4 = .ok (.getfield 297, 3) := by decide +kernel
theorem dX7_lay_7 : decode cX7_lay 7 = .ok (.if_icmp .ge 68, 3) := by decide +kernel
theorem dX7_lay_10 : decode cX7_lay 10 = .ok (.aload_n 1, 1) := by decide +kernel
theorem dX7_lay_11 : decode cX7_lay 11 = .ok (.iload_n 2, 1) := by decide +kernel
theorem dX7_lay_12 : decode cX7_lay 12 = .ok (.invokevirtual 161, 3) := by decide +kernel
theorem dX7_lay_15 : decode cX7_lay 15 = .ok (.istore_n 3, 1) := by decide +kernel
theorem dX7_lay_16 : decode cX7_lay 16 = .ok (.iload_n 3, 1) := by decide +kernel
theorem dX7_lay_17 : decode cX7_lay 17 = .ok (.bipush 10, 2) := by decide +kernel
theorem dX7_lay_19 : decode cX7_lay 19 = .ok (.if_icmp .ge 7, 3) := by decide +kernel
theorem dX7_lay_22 : decode cX7_lay 22 = .ok (.iload_n 3, 1) := by decide +kernel
theorem dX7_lay_23 : decode cX7_lay 23 = .ok (.goto 14, 3) := by decide +kernel
theorem dX7_lay_26 : decode cX7_lay 26 = .ok (.aload_n 0, 1) := by decide +kernel
theorem dX7_lay_27 : decode cX7_lay 27 = .ok (.getfield 44, 3) := by decide +kernel
theorem dX7_lay_30 : decode cX7_lay 30 = .ok (.iload_n 3, 1) := by decide +kernel
theorem dX7_lay_31 : decode cX7_lay 31 = .ok (.bipush 10, 2) := by decide +kernel
theorem dX7_lay_33 : decode cX7_lay 33 = .ok (.irem, 1) := by decide +kernel
theorem dX7_lay_34 : decode cX7_lay 34 = .ok (.invokestatic 92, 3) := by decide +kernel
theorem dX7_lay_37 : decode cX7_lay 37 = .ok (.istore 4, 2) := by decide +kernel
theorem dX7_lay_39 : decode cX7_lay 39 = .ok (.iload_n 3, 1) := by decide +kernel
theorem dX7_lay_40 : decode cX7_lay 40 = .ok (.iload 4, 2) := by decide +kernel
theorem dX7_lay_42 : decode cX7_lay 42 = .ok (.invokestatic 300, 3) := by decide +kernel
theorem dX7_lay_45 : decode cX7_lay 45 = .ok (.ifCond .eq 13, 3) := by decide +kernel
theorem dX7_lay_48 : decode cX7_lay 48 = .ok (.aload_n 0, 1) := by decide +kernel
theorem dX7_lay_49 : decode cX7_lay 49 = .ok (.getfield 41, 3) := by decide +kernel
theorem dX7_lay_52 : decode cX7_lay 52 = .ok (.invokevirtual 55, 3) := by decide +kernel
theorem dX7_lay_55 : decode cX7_lay 55 = .ok (.ifCond .eq 5, 3) := by decide +kernel
theorem dX7_lay_58 : decode cX7_lay 58 = .ok (.iconst 0, 1) := by decide +kernel
theorem dX7_lay_59 : decode cX7_lay 59 = .ok (.ireturn, 1) := by decide +kernel
theorem dX7_lay_60 : decode cX7_lay 60 = .ok (.aload_n 0, 1) := by decide +kernel
theorem dX7_lay_61 : decode cX7_lay 61 = .ok (.getfield 41, 3) := by decide +kernel
theorem dX7_lay_64 : decode cX7_lay 64 = .ok (.iload 4, 2) := by decide +kernel
theorem dX7_lay_66 : decode cX7_lay 66 = .ok (.invokevirtual 59, 3) := by decide +kernel
theorem dX7_lay_69 : decode cX7_lay 69 = .ok (.iinc 2 1, 3) := by decide +kernel
theorem dX7_lay_72 : decode cX7_lay 72 = .ok (.goto (-70), 3) := by decide +kernel
theorem dX7_lay_75 : decode cX7_lay 75 = .ok (.iconst 1, 1) := by decide +kernel
theorem dX7_lay_76 : decode cX7_lay 76 = .ok (.ireturn, 1) := by decide +kernel
theorem lp_lay {S : St} {K F : Nat → Nat} {g : Nat → Nat} {r : Nat} {D : Mem} (hr : r < cm_ (bk S)) : ∀ (m : Nat) (i : Nat) (M : List Nat) (D1 : Mem) (y3 y4 : Option Value), i + m = pl (sg_ (bk S) r) → INVK D1 S K F → GV D1 g → LET D1 100 M → Fr inL D D1 → X 3 138 j_X7_lay 2 [some (.ref 0), some (.ref (rt 1 r)), some (.int (nI i)), y3, y4] [] (138, P0, D1) (fun x σ => ∃ (u : Int32) (D' : Mem), x = [.int u] ∧ σ = wd D' ∧ (Fr inL D D' ∧ LAY D' u (layI (sg_ (bk S) r) g i m M))) := by
  intro m
  induction m with
  | zero =>
    intro i M D1 y3 y4 hi h hg hM hf
    have hcm := h.1.2.1.2.1
    obtain ⟨r1, r2, r3, r4, r5⟩ := h.1.1.2.2.2 r hr
    have hisR := ((isB.facts (Or.inl rfl : isB 1)).2.2.2.2.2.2 r (by omega)).2
    have hra : rt 1 r < 138 := hisR.1
    have hrc : (lay (rt 1 r)).1 = 3 := hisR.2
    have hpl := pl_le (sg_ (bk S) r)
    have h44 := r5.1
    refine X_iload_n (nx := 3) dX7_lay_2 rfl rfl rfl ?_
    refine X_aload_n (nx := 4) dX7_lay_3 rfl rfl rfl ?_
    refine M_getI (nx := 7) dX7_lay_4 rfl fl_RX7_297 rfl (by first | assumption | rfl | decide | omega) (by first | assumption | rfl | decide | omega) ?_
    refine X_top (r5.2.2.1) ?_
    refine X_icmp_ge (tgt := 75) (nx := 10) dX7_lay_7 rfl rfl (fun h7 => ?_) (fun h7 => ?_)
    · skip
      refine X_iconst (v := 1) (nx := 76) dX7_lay_75 rfl rfl ?_
      exact Z_reti dX7_lay_76 (Or.inr ⟨rfl, by first | exact Or.inl rfl | exact Or.inr rfl | exact b2i_01 _ | assumption⟩) (⟨hf, rfl, hM⟩)
    · exact absurd h7 (fun q => q (nI_le (by omega) (by omega)))
  | succ m ih =>
    intro i M D1 y3 y4 hi h hg hM hf
    have hcm := h.1.2.1.2.1
    obtain ⟨r1, r2, r3, r4, r5⟩ := h.1.1.2.2.2 r hr
    have hisR := ((isB.facts (Or.inl rfl : isB 1)).2.2.2.2.2.2 r (by omega)).2
    have hra : rt 1 r < 138 := hisR.1
    have hrc : (lay (rt 1 r)).1 = 3 := hisR.2
    have hpl := pl_le (sg_ (bk S) r)
    have h44 := r5.1
    have Vs := (h.1.2.1.2.2 r hr).2.1
    have hl4 := lyl_lt (g := g) (i := i) Vs (by omega) (fun k hk => (hg k hk).2)
    have hs40 : (sg_ (bk S) r).getD i 0 ≤ 40 := sgv_le (Vs.plain (k := i) (by omega)).1
    have hlt : ¬ nI 10 ≤ nI ((sg_ (bk S) r).getD i 0) → nI ((sg_ (bk S) r).getD i 0) = nI (lyl (sg_ (bk S) r) g i) := fun q => by
      rw [nI_leI (by omega) (by omega)] at q
      unfold lyl; rw [if_pos (by omega)]
    have hrm : nI 10 ≤ nI ((sg_ (bk S) r).getD i 0) → nI ((sg_ (bk S) r).getD i 0) - nI ((sg_ (bk S) r).getD i 0) / nI 10 * nI 10 = nI (((sg_ (bk S) r).getD i 0) % 10) := fun q => pk_rem (by omega) (by decide) (by decide)
    have hm4 : nI 10 ≤ nI ((sg_ (bk S) r).getD i 0) → ((sg_ (bk S) r).getD i 0) % 10 < 4 := fun q => by
      rw [nI_leI (by omega) (by omega)] at q
      exact hl4.2.resolve_left (by omega)
    have hgv : nI 10 ≤ nI ((sg_ (bk S) r).getD i 0) → D1 102 (((sg_ (bk S) r).getD i 0) % 10) = nI (lyl (sg_ (bk S) r) g i) := fun q => by
      rw [(hg _ (hm4 q)).1]
      rw [nI_leI (by omega) (by omega)] at q
      unfold lyl; rw [if_neg (by omega)]
    refine X_iload_n (nx := 3) dX7_lay_2 rfl rfl rfl ?_
    refine X_aload_n (nx := 4) dX7_lay_3 rfl rfl rfl ?_
    refine M_getI (nx := 7) dX7_lay_4 rfl fl_RX7_297 rfl (by first | assumption | rfl | decide | omega) (by first | assumption | rfl | decide | omega) ?_
    refine X_top (r5.2.2.1) ?_
    refine X_icmp_ge (tgt := 75) (nx := 10) dX7_lay_7 rfl rfl (fun h7 => ?_) (fun h7 => ?_)
    · exact absurd h7 (nI_ge (by omega) (by omega))
    · skip
      refine X_aload_n (nx := 11) dX7_lay_10 rfl rfl rfl ?_
      refine X_iload_n (nx := 12) dX7_lay_11 rfl rfl rfl ?_
      refine Y_Vi1 (nx := 15) dX7_lay_12 rfl ml_RX7_161 kj_X4_segmentAt kv_X4_segmentAt (sp_X4_segmentAt hisR r5 rfl (by omega)) (by first | assumption | rfl | decide | omega) (by first | assumption | rfl | decide | omega) (by decide) rfl (by first | decide | omega) (by exact Nat.le_of_ble_eq_true rfl) ?_
      refine X_istore_n (i := 3) (nx := 16) dX7_lay_15 rfl rfl (by decide) rfl (st_s (st_s (st_s (st_0)))) ?_
      refine X_iload_n (nx := 17) dX7_lay_16 rfl rfl rfl ?_
      refine X_bipush (v := nI 10) (nx := 19) dX7_lay_17 rfl rfl ?_
      refine X_icmp_ge (tgt := 26) (nx := 22) dX7_lay_19 rfl rfl (fun h19 => ?_) (fun h19 => ?_)
      · skip
        refine X_aload_n (nx := 27) dX7_lay_26 rfl rfl rfl ?_
        refine M_getP (nx := 30) dX7_lay_27 rfl fl_RX7_44 rfl (by first | assumption | rfl | decide | omega) (by first | assumption | rfl | decide | omega) (by first | assumption | rfl | decide | omega) ?_
        refine X_iload_n (nx := 31) dX7_lay_30 rfl rfl rfl ?_
        refine X_bipush (v := nI 10) (nx := 33) dX7_lay_31 rfl rfl ?_
        refine X_irem (nx := 34) dX7_lay_33 rfl (by decide) ?_
        refine X_top (hrm h19) ?_
        refine Y_Si2 (nx := 37) dX7_lay_34 rfl ml_RX7_92 kj_X7_numberAt ks_X7_numberAt (sp_X7_numberAt (i := ((sg_ (bk S) r).getD i 0) % 10) (by decide) (by decide) rfl (by rw [show (lay 102).2 = 4 from by decide]; exact hm4 h19)) (by first | decide | omega) (by exact Nat.le_of_ble_eq_true rfl) ?_
        refine X_top (hgv h19) ?_
        refine X_istore (i := 4) (nx := 39) dX7_lay_37 rfl (by decide) rfl (st_s (st_s (st_s (st_s (st_0))))) ?_
        refine X_iload_n (nx := 40) dX7_lay_39 rfl rfl rfl ?_
        refine X_iload (nx := 42) dX7_lay_40 rfl rfl ?_
        refine Y_Si2 (nx := 45) dX7_lay_42 rfl ml_RX7_300 kj_X7_fits ks_X7_fits (sp_X7_fits (s := ((sg_ (bk S) r).getD i 0)) rfl (Vs.plain (by omega)).1 rfl hl4.1) (by first | decide | omega) (by exact Nat.le_of_ble_eq_true rfl) ?_
        refine X_if_eq (tgt := 58) (nx := 48) dX7_lay_45 rfl rfl (fun h45 => ?_) (fun h45 => ?_)
        · skip
          refine X_iconst (v := 0) (nx := 59) dX7_lay_58 rfl rfl ?_
          exact Z_reti dX7_lay_59 (Or.inr ⟨rfl, by first | exact Or.inl rfl | exact Or.inr rfl | exact b2i_01 _ | assumption⟩) (lay_zn (S := S) hf (fun q => by first | exact nb h45 q.1 | exact absurd q.2 (Nat.not_lt.mpr (of_decide_eq_true (b2i_t.mp h55)))))
        · skip
          refine X_aload_n (nx := 49) dX7_lay_48 rfl rfl rfl ?_
          refine M_getP (nx := 52) dX7_lay_49 rfl fl_RX7_41 rfl (by first | assumption | rfl | decide | omega) (by first | assumption | rfl | decide | omega) (by first | assumption | rfl | decide | omega) ?_
          refine Y_Vi0 (nx := 55) dX7_lay_52 rfl ml_RX7_55 kj_X2_isFull kv_X2_isFull (sp_X2_isFull (isPa.pl (Or.inr rfl)) (hM.pil (Or.inr rfl))) (by first | assumption | rfl | decide | omega) (by first | assumption | rfl | decide | omega) (by decide) rfl (by first | decide | omega) (by exact Nat.le_of_ble_eq_true rfl) ?_
          refine X_top (show b2i (decide ((lay (100 + 1)).2 ≤ M.length)) = b2i (decide (4 ≤ M.length)) by rw [show (lay (100 + 1)).2 = 4 from by decide]) ?_
          refine X_if_eq (tgt := 60) (nx := 58) dX7_lay_55 rfl rfl (fun h55 => ?_) (fun h55 => ?_)
          · skip
            refine X_aload_n (nx := 61) dX7_lay_60 rfl rfl rfl ?_
            refine M_getP (nx := 64) dX7_lay_61 rfl fl_RX7_41 rfl (by first | assumption | rfl | decide | omega) (by first | assumption | rfl | decide | omega) (by first | assumption | rfl | decide | omega) ?_
            refine X_iload (nx := 66) dX7_lay_64 rfl rfl ?_
            refine Y_Vv1 (nx := 69) dX7_lay_66 rfl ml_RX7_59 kj_X2_add kv_X2_add (sp_X2_add (isPa.pl (Or.inr rfl)) (hM.pil (Or.inr rfl)) (by rw [show (lay (100 + 1)).2 = 4 from by decide]; exact Nat.not_le.mp (fun q => nb h55 (decide_eq_true q)))) (by first | assumption | rfl | decide | omega) (by first | assumption | rfl | decide | omega) (by decide) rfl (by first | decide | omega) (by exact Nat.le_of_ble_eq_true rfl) ?_
            refine X_iinc (nx := 72) dX7_lay_69 rfl (by decide) rfl (by first | exact ii1 _ | rfl) rfl (st_s (st_s (st_0))) ?_
            refine X_goto (tgt := 2) dX7_lay_72 rfl ?_
            have hl : M.length < 4 := Nat.not_le.mp (fun q => nb h55 (decide_eq_true q))
            have hL2 := hM.add (k := lyl (sg_ (bk S) r) g i) hl hl4.1
            have hfL : Fr inL D1 (up2 (up2 D1 (100 + 1) M.length (nI (lyl (sg_ (bk S) r) g i))) 100 1 (nI (M.length + 1))) := (Fr.up (Or.inr rfl)).tr (Fr.up (Or.inl rfl))
            rw [show layI (sg_ (bk S) r) g i (m + 1) M = layI (sg_ (bk S) r) g (i + 1) m (M ++ [lyl (sg_ (bk S) r) g i]) from if_pos ⟨b2i_t.mp h45, hl⟩]
            exact ih (i + 1) _ _ _ _ (by omega) (h.frL hfL) (hg.frL hfL) hL2 (hf.tr hfL)
          · skip
            refine X_iconst (v := 0) (nx := 59) dX7_lay_58 rfl rfl ?_
            exact Z_reti dX7_lay_59 (Or.inr ⟨rfl, by first | exact Or.inl rfl | exact Or.inr rfl | exact b2i_01 _ | assumption⟩) (lay_zn (S := S) hf (fun q => by first | exact nb h45 q.1 | exact absurd q.2 (Nat.not_lt.mpr (of_decide_eq_true (b2i_t.mp h55)))))
      · skip
        refine X_iload_n (nx := 23) dX7_lay_22 rfl rfl rfl ?_
        refine X_top (hlt h19) ?_
        refine X_goto (tgt := 37) dX7_lay_23 rfl ?_
        refine X_istore (i := 4) (nx := 39) dX7_lay_37 rfl (by decide) rfl (st_s (st_s (st_s (st_s (st_0))))) ?_
        refine X_iload_n (nx := 40) dX7_lay_39 rfl rfl rfl ?_
        refine X_iload (nx := 42) dX7_lay_40 rfl rfl ?_
        refine Y_Si2 (nx := 45) dX7_lay_42 rfl ml_RX7_300 kj_X7_fits ks_X7_fits (sp_X7_fits (s := ((sg_ (bk S) r).getD i 0)) rfl (Vs.plain (by omega)).1 rfl hl4.1) (by first | decide | omega) (by exact Nat.le_of_ble_eq_true rfl) ?_
        refine X_if_eq (tgt := 58) (nx := 48) dX7_lay_45 rfl rfl (fun h45 => ?_) (fun h45 => ?_)
        · skip
          refine X_iconst (v := 0) (nx := 59) dX7_lay_58 rfl rfl ?_
          exact Z_reti dX7_lay_59 (Or.inr ⟨rfl, by first | exact Or.inl rfl | exact Or.inr rfl | exact b2i_01 _ | assumption⟩) (lay_zn (S := S) hf (fun q => by first | exact nb h45 q.1 | exact absurd q.2 (Nat.not_lt.mpr (of_decide_eq_true (b2i_t.mp h55)))))
        · skip
          refine X_aload_n (nx := 49) dX7_lay_48 rfl rfl rfl ?_
          refine M_getP (nx := 52) dX7_lay_49 rfl fl_RX7_41 rfl (by first | assumption | rfl | decide | omega) (by first | assumption | rfl | decide | omega) (by first | assumption | rfl | decide | omega) ?_
          refine Y_Vi0 (nx := 55) dX7_lay_52 rfl ml_RX7_55 kj_X2_isFull kv_X2_isFull (sp_X2_isFull (isPa.pl (Or.inr rfl)) (hM.pil (Or.inr rfl))) (by first | assumption | rfl | decide | omega) (by first | assumption | rfl | decide | omega) (by decide) rfl (by first | decide | omega) (by exact Nat.le_of_ble_eq_true rfl) ?_
          refine X_top (show b2i (decide ((lay (100 + 1)).2 ≤ M.length)) = b2i (decide (4 ≤ M.length)) by rw [show (lay (100 + 1)).2 = 4 from by decide]) ?_
          refine X_if_eq (tgt := 60) (nx := 58) dX7_lay_55 rfl rfl (fun h55 => ?_) (fun h55 => ?_)
          · skip
            refine X_aload_n (nx := 61) dX7_lay_60 rfl rfl rfl ?_
            refine M_getP (nx := 64) dX7_lay_61 rfl fl_RX7_41 rfl (by first | assumption | rfl | decide | omega) (by first | assumption | rfl | decide | omega) (by first | assumption | rfl | decide | omega) ?_
            refine X_iload (nx := 66) dX7_lay_64 rfl rfl ?_
            refine Y_Vv1 (nx := 69) dX7_lay_66 rfl ml_RX7_59 kj_X2_add kv_X2_add (sp_X2_add (isPa.pl (Or.inr rfl)) (hM.pil (Or.inr rfl)) (by rw [show (lay (100 + 1)).2 = 4 from by decide]; exact Nat.not_le.mp (fun q => nb h55 (decide_eq_true q)))) (by first | assumption | rfl | decide | omega) (by first | assumption | rfl | decide | omega) (by decide) rfl (by first | decide | omega) (by exact Nat.le_of_ble_eq_true rfl) ?_
            refine X_iinc (nx := 72) dX7_lay_69 rfl (by decide) rfl (by first | exact ii1 _ | rfl) rfl (st_s (st_s (st_0))) ?_
            refine X_goto (tgt := 2) dX7_lay_72 rfl ?_
            have hl : M.length < 4 := Nat.not_le.mp (fun q => nb h55 (decide_eq_true q))
            have hL2 := hM.add (k := lyl (sg_ (bk S) r) g i) hl hl4.1
            have hfL : Fr inL D1 (up2 (up2 D1 (100 + 1) M.length (nI (lyl (sg_ (bk S) r) g i))) 100 1 (nI (M.length + 1))) := (Fr.up (Or.inr rfl)).tr (Fr.up (Or.inl rfl))
            rw [show layI (sg_ (bk S) r) g i (m + 1) M = layI (sg_ (bk S) r) g (i + 1) m (M ++ [lyl (sg_ (bk S) r) g i]) from if_pos ⟨b2i_t.mp h45, hl⟩]
            exact ih (i + 1) _ _ _ _ (by omega) (h.frL hfL) (hg.frL hfL) hL2 (hf.tr hfL)
          · skip
            refine X_iconst (v := 0) (nx := 59) dX7_lay_58 rfl rfl ?_
            exact Z_reti dX7_lay_59 (Or.inr ⟨rfl, by first | exact Or.inl rfl | exact Or.inr rfl | exact b2i_01 _ | assumption⟩) (lay_zn (S := S) hf (fun q => by first | exact nb h45 q.1 | exact absurd q.2 (Nat.not_lt.mpr (of_decide_eq_true (b2i_t.mp h55)))))
theorem sp_X7_lay {S : St} {K F : Nat → Nat} {g : Nat → Nat} {r : Nat} {D : Mem} (hr : r < cm_ (bk S)) {M : List Nat} (h : INVK D S K F) (hg : GV D g) (hM : LET D 100 M) : Rix 3 j_X7_lay [.ref 0, .ref (rt 1 r)] D (fun u D' => Fr inL D D' ∧ LAY D' u (layR (bk S) g r M)) := by
  refine E.start 3 (ls := [some (.ref 0), some (.ref (rt 1 r)), none, none, none]) (by decide +kernel) (Nat.le_of_ble_eq_true rfl) rfl (Nat.le_refl _) (Nat.le_refl _) ?_
  refine X_iconst (v := nI 0) (nx := 1) dX7_lay_0 rfl rfl ?_
  refine X_istore_n (i := 2) (nx := 2) dX7_lay_1 rfl rfl (by decide) rfl (st_s (st_s (st_0))) ?_
  exact lp_lay hr (pl (sg_ (bk S) r)) 0 M D none none (Nat.zero_add _) h hg hM Fr.rf
theorem wy_th {B : Bk} : ∀ (R x k : Nat), wy B R x = some k → thN B k = true := by
  intro R
  induction R with
  | zero => intro x k h; cases h
  | succ R ih =>
    intro x k h
    unfold wy at h
    split at h
    · have := (fst_some h).2.2.1
      unfold wyP at this
      simp only [Bool.and_eq_true] at this
      exact this.1
    · exact ih x k h
theorem LAY_cases {D : Mem} {u : Int32} {o : Option (List Nat)} (h : LAY D u o) : (u = 0 ∧ o = none) ∨ (u = 1 ∧ ∃ M, o = some M ∧ LET D 100 M) := by
  cases o with
  | none => exact Or.inl ⟨h, rfl⟩
  | some M => exact Or.inr ⟨h.1, M, rfl, h.2⟩
theorem LAY_n {D : Mem} {u : Int32} {o : Option (List Nat)} (h : LAY D u o) (hu : u = 0) : o = none := by
  rcases LAY_cases h with ⟨_, h⟩ | ⟨h1, _⟩
  · exact h
  · rw [hu] at h1; exact absurd h1 (by decide)
theorem LAY_y {D : Mem} {u : Int32} {o : Option (List Nat)} (h : LAY D u o) (hu : ¬ u = 0) : u = 1 ∧ ∃ M, o = some M ∧ LET D 100 M := by
  rcases LAY_cases h with ⟨h, _⟩ | h
  · exact absurd h hu
  · exact h
def LWP (n d : Nat) (S : St) (K F g : Nat → Nat) : Prop := ∀ (D : Mem) (R dp : Nat) (M : List Nat), n + dp = 3 → INVK D S K F → GV D g → R < 3 → LET D 100 M → Rix d j_X7_layWay [.ref 0, .int (nI R), .int (nI dp)] D (fun u D' => Fr inL D D' ∧ LAY D' u (lwN (bk S) g n R M))
theorem lw_0 {B : Bk} {g : Nat → Nat} {n : Nat} {M : List Nat} : lwN B g n 0 M = some M := by cases n <;> rfl
theorem lw_n {B : Bk} {g : Nat → Nat} {n R : Nat} {M : List Nat} (hR : ¬ R = 0) (h : n = 0 ∨ wy B 2 R = none) : lwN B g n R M = none := by
  cases n with
  | zero => exact if_neg hR
  | succ n => rw [lwN, if_neg hR, h.resolve_left (by omega)]
theorem lw_s {B : Bk} {g : Nat → Nat} {n R m : Nat} {M : List Nat} (hR : ¬ R = 0) (h : wy B 2 R = some m) : lwN B g (n + 1) R M = match lwN B g n (ro_ B m) M with
      | none => none
      | some M' => layR B g m M' := by rw [lwN, if_neg hR, h]
theorem lay_1 {D : Mem} {M : List Nat} (h : LET D 100 M) : LAY D 1 (some M) := ⟨rfl, h⟩
theorem dX7_layWay_0 : decode cX7_layWay 0 = .ok (.iload_n 1, 1) := by decide +kernel
theorem dX7_layWay_1 : decode cX7_layWay 1 = .ok (.ifCond .ne 5, 3) := by decide +kernel
theorem dX7_layWay_4 : decode cX7_layWay 4 = .ok (.iconst 1, 1) := by decide +kernel
theorem dX7_layWay_5 : decode cX7_layWay 5 = .ok (.ireturn, 1) := by decide +kernel
theorem dX7_layWay_6 : decode cX7_layWay 6 = .ok (.aload_n 0, 1) := by decide +kernel
theorem dX7_layWay_7 : decode cX7_layWay 7 = .ok (.getfield 25, 3) := by decide +kernel
theorem dX7_layWay_10 : decode cX7_layWay 10 = .ok (.getfield 76, 3) := by decide +kernel
theorem dX7_layWay_13 : decode cX7_layWay 13 = .ok (.getfield 294, 3) := by decide +kernel
theorem dX7_layWay_16 : decode cX7_layWay 16 = .ok (.iload_n 1, 1) := by decide +kernel
theorem dX7_layWay_17 : decode cX7_layWay 17 = .ok (.invokestatic 92, 3) := by decide +kernel
theorem dX7_layWay_20 : decode cX7_layWay 20 = .ok (.istore_n 3, 1) := by decide +kernel
theorem dX7_layWay_21 : decode cX7_layWay 21 = .ok (.iload_n 3, 1) := by decide +kernel
theorem dX7_layWay_22 : decode cX7_layWay 22 = .ok (.ifCond .lt 8, 3) := by decide +kernel
theorem dX7_layWay_25 : decode cX7_layWay 25 = .ok (.iload_n 2, 1) := by decide +kernel
theorem dX7_layWay_26 : decode cX7_layWay 26 = .ok (.iconst 3, 1) := by decide +kernel
theorem dX7_layWay_27 : decode cX7_layWay 27 = .ok (.if_icmp .lt 5, 3) := by decide +kernel
theorem dX7_layWay_30 : decode cX7_layWay 30 = .ok (.iconst 0, 1) := by decide +kernel
theorem dX7_layWay_31 : decode cX7_layWay 31 = .ok (.ireturn, 1) := by decide +kernel
theorem dX7_layWay_32 : decode cX7_layWay 32 = .ok (.aload_n 0, 1) := by decide +kernel
theorem dX7_layWay_33 : decode cX7_layWay 33 = .ok (.getfield 10, 3) := by decide +kernel
theorem dX7_layWay_36 : decode cX7_layWay 36 = .ok (.iload_n 3, 1) := by decide +kernel
theorem dX7_layWay_37 : decode cX7_layWay 37 = .ok (.invokevirtual 106, 3) := by decide +kernel
theorem dX7_layWay_40 : decode cX7_layWay 40 = .ok (.astore 4, 2) := by decide +kernel
theorem dX7_layWay_42 : decode cX7_layWay 42 = .ok (.aload_n 0, 1) := by decide +kernel
theorem dX7_layWay_43 : decode cX7_layWay 43 = .ok (.aload 4, 2) := by decide +kernel
theorem dX7_layWay_45 : decode cX7_layWay 45 = .ok (.getfield 145, 3) := by decide +kernel
theorem dX7_layWay_48 : decode cX7_layWay 48 = .ok (.iload_n 2, 1) := by decide +kernel
theorem dX7_layWay_49 : decode cX7_layWay 49 = .ok (.iconst 1, 1) := by decide +kernel
theorem dX7_layWay_50 : decode cX7_layWay 50 = .ok (.iadd, 1) := by decide +kernel
theorem dX7_layWay_51 : decode cX7_layWay 51 = .ok (.invokevirtual 284, 3) := by decide +kernel
theorem dX7_layWay_54 : decode cX7_layWay 54 = .ok (.ifCond .eq 16, 3) := by decide +kernel
theorem dX7_layWay_57 : decode cX7_layWay 57 = .ok (.aload_n 0, 1) := by decide +kernel
theorem dX7_layWay_58 : decode cX7_layWay 58 = .ok (.aload 4, 2) := by decide +kernel
theorem dX7_layWay_60 : decode cX7_layWay 60 = .ok (.invokevirtual 287, 3) := by decide +kernel
theorem dX7_layWay_63 : decode cX7_layWay 63 = .ok (.ifCond .eq 7, 3) := by decide +kernel
theorem dX7_layWay_66 : decode cX7_layWay 66 = .ok (.iconst 1, 1) := by decide +kernel
theorem dX7_layWay_67 : decode cX7_layWay 67 = .ok (.goto 4, 3) := by decide +kernel
theorem dX7_layWay_70 : decode cX7_layWay 70 = .ok (.iconst 0, 1) := by decide +kernel
theorem dX7_layWay_71 : decode cX7_layWay 71 = .ok (.ireturn, 1) := by decide +kernel
theorem sp_layWay_0 {S : St} {K F g : Nat → Nat} {D : Mem} {R dp : Nat} {M : List Nat} (hdp : 3 ≤ dp) (hd3 : dp < 1000) (h : INVK D S K F) (hg : GV D g) (hR : R < 3) (hM : LET D 100 M) : Rix 4 j_X7_layWay [.ref 0, .int (nI R), .int (nI dp)] D (fun u D' => Fr inL D D' ∧ LAY D' u (lwN (bk S) g 0 R M)) := by
  refine E.start 2 (ls := [some (.ref 0), some (.int (nI R)), some (.int (nI dp)), none, none]) (by decide +kernel) (Nat.le_of_ble_eq_true rfl) rfl (Nat.le_refl _) (Nat.le_refl _) ?_
  have hw := h.2.2.2.2.1 R hR
  refine X_iload_n (nx := 1) dX7_layWay_0 rfl rfl rfl ?_
  refine X_if_ne (tgt := 6) (nx := 4) dX7_layWay_1 rfl rfl (fun h1 => ?_) (fun h1 => ?_)
  · skip
    rw [nI_0' (by omega)] at h1
    refine X_aload_n (nx := 7) dX7_layWay_6 rfl rfl rfl ?_
    refine M_getP (nx := 10) dX7_layWay_7 rfl fl_RX7_25 rfl (by first | assumption | rfl | decide | omega) (by first | assumption | rfl | decide | omega) (by first | assumption | rfl | decide | omega) ?_
    refine M_getP (nx := 13) dX7_layWay_10 rfl fl_RX7_76 rfl (by first | assumption | rfl | decide | omega) (by first | assumption | rfl | decide | omega) (by first | assumption | rfl | decide | omega) ?_
    refine M_getP (nx := 16) dX7_layWay_13 rfl fl_RX7_294 rfl (by first | assumption | rfl | decide | omega) (by first | assumption | rfl | decide | omega) (by first | assumption | rfl | decide | omega) ?_
    refine X_iload_n (nx := 17) dX7_layWay_16 rfl rfl rfl ?_
    refine Y_Si2 (nx := 20) dX7_layWay_17 rfl ml_RX7_92 kj_X7_numberAt ks_X7_numberAt (sp_X7_numberAt (i := R) (by decide) (by decide) rfl (by rw [show (lay 91).2 = 3 from by decide]; omega)) (by first | decide | omega) (by exact Nat.le_of_ble_eq_true rfl) ?_
    refine X_top (hw) ?_
    refine X_istore_n (i := 3) (nx := 21) dX7_layWay_20 rfl rfl (by decide) rfl (st_s (st_s (st_s (st_0)))) ?_
    refine X_iload_n (nx := 22) dX7_layWay_21 rfl rfl rfl ?_
    refine X_if_lt (tgt := 30) (nx := 25) dX7_layWay_22 rfl rfl (fun h22 => ?_) (fun h22 => ?_)
    · skip
      refine X_iconst (v := 0) (nx := 31) dX7_layWay_30 rfl rfl ?_
      exact Z_reti dX7_layWay_31 (Or.inr ⟨rfl, by first | exact Or.inl rfl | exact Or.inr rfl | exact b2i_01 _ | assumption⟩) (⟨Fr.rf, by rw [lw_n h1 (Or.inl rfl)]; exact rfl⟩)
    · skip
      refine X_iload_n (nx := 26) dX7_layWay_25 rfl rfl rfl ?_
      refine X_iconst (v := nI 3) (nx := 27) dX7_layWay_26 rfl rfl ?_
      refine X_icmp_lt (tgt := 32) (nx := 30) dX7_layWay_27 rfl rfl (fun h27 => ?_) (fun h27 => ?_)
      · exact absurd h27 (fun q => absurd ((nI_ltI (by omega) (by omega)).mp q) (by omega))
      · skip
        refine X_iconst (v := 0) (nx := 31) dX7_layWay_30 rfl rfl ?_
        exact Z_reti dX7_layWay_31 (Or.inr ⟨rfl, by first | exact Or.inl rfl | exact Or.inr rfl | exact b2i_01 _ | assumption⟩) (⟨Fr.rf, by rw [lw_n h1 (Or.inl rfl)]; exact rfl⟩)
  · skip
    rw [nI_0' (by omega)] at h1
    refine X_iconst (v := 1) (nx := 5) dX7_layWay_4 rfl rfl ?_
    exact Z_reti dX7_layWay_5 (Or.inr ⟨rfl, by first | exact Or.inl rfl | exact Or.inr rfl | exact b2i_01 _ | assumption⟩) (⟨Fr.rf, by subst h1; rw [lw_0]; exact lay_1 hM⟩)
theorem sp_layWay_s {S : St} {K F g : Nat → Nat} {D : Mem} {R dp n d : Nat} {M : List Nat} (hlw : LWP n d S K F g) (hd4 : 4 ≤ d) (hdp : n + (dp + 1) = 3) (h : INVK D S K F) (hg : GV D g) (hR : R < 3) (hM : LET D 100 M) : Rix (d + 1) j_X7_layWay [.ref 0, .int (nI R), .int (nI dp)] D (fun u D' => Fr inL D D' ∧ LAY D' u (lwN (bk S) g (n + 1) R M)) := by
  refine E.start 2 (ls := [some (.ref 0), some (.int (nI R)), some (.int (nI dp)), none, none]) (by decide +kernel) (Nat.le_of_ble_eq_true rfl) rfl (Nat.le_refl _) (Nat.le_refl _) ?_
  have hw := h.2.2.2.2.1 R hR
  refine X_iload_n (nx := 1) dX7_layWay_0 rfl rfl rfl ?_
  refine X_if_ne (tgt := 6) (nx := 4) dX7_layWay_1 rfl rfl (fun h1 => ?_) (fun h1 => ?_)
  · skip
    rw [nI_0' (by omega)] at h1
    refine X_aload_n (nx := 7) dX7_layWay_6 rfl rfl rfl ?_
    refine M_getP (nx := 10) dX7_layWay_7 rfl fl_RX7_25 rfl (by first | assumption | rfl | decide | omega) (by first | assumption | rfl | decide | omega) (by first | assumption | rfl | decide | omega) ?_
    refine M_getP (nx := 13) dX7_layWay_10 rfl fl_RX7_76 rfl (by first | assumption | rfl | decide | omega) (by first | assumption | rfl | decide | omega) (by first | assumption | rfl | decide | omega) ?_
    refine M_getP (nx := 16) dX7_layWay_13 rfl fl_RX7_294 rfl (by first | assumption | rfl | decide | omega) (by first | assumption | rfl | decide | omega) (by first | assumption | rfl | decide | omega) ?_
    refine X_iload_n (nx := 17) dX7_layWay_16 rfl rfl rfl ?_
    refine Y_Si2 (nx := 20) dX7_layWay_17 rfl ml_RX7_92 kj_X7_numberAt ks_X7_numberAt (sp_X7_numberAt (i := R) (by decide) (by decide) rfl (by rw [show (lay 91).2 = 3 from by decide]; omega)) (by first | decide | omega) (by exact Nat.le_of_ble_eq_true rfl) ?_
    refine X_top (hw) ?_
    refine X_istore_n (i := 3) (nx := 21) dX7_layWay_20 rfl rfl (by decide) rfl (st_s (st_s (st_s (st_0)))) ?_
    refine X_iload_n (nx := 22) dX7_layWay_21 rfl rfl rfl ?_
    refine X_if_lt (tgt := 30) (nx := 25) dX7_layWay_22 rfl rfl (fun h22 => ?_) (fun h22 => ?_)
    · skip
      have hn := opI_lt h22 (fun k hk => by have := wy_lt 2 R k hk; omega)
      refine X_iconst (v := 0) (nx := 31) dX7_layWay_30 rfl rfl ?_
      exact Z_reti dX7_layWay_31 (Or.inr ⟨rfl, by first | exact Or.inl rfl | exact Or.inr rfl | exact b2i_01 _ | assumption⟩) (⟨Fr.rf, by rw [lw_n h1 (Or.inr hn)]; exact rfl⟩)
    · skip
      obtain ⟨r, hrr⟩ := Option.isSome_iff_exists.mp (opI_ge h22)
      have hr := thN_lt (wy_th 2 R r hrr)
      rw [hrr]
      have hcm := h.1.2.1.2.1
      obtain ⟨r1, r2, r3, r4, r5⟩ := h.1.1.2.2.2 r hr
      have hisR := ((isB.facts (Or.inl rfl : isB 1)).2.2.2.2.2.2 r (by omega)).2
      have hra : rt 1 r < 138 := hisR.1
      have hrc : (lay (rt 1 r)).1 = 3 := hisR.2
      have hro := (h.1.2.1.2.2 r hr).1
      refine X_iload_n (nx := 26) dX7_layWay_25 rfl rfl rfl ?_
      refine X_iconst (v := nI 3) (nx := 27) dX7_layWay_26 rfl rfl ?_
      refine X_icmp_lt (tgt := 32) (nx := 30) dX7_layWay_27 rfl rfl (fun h27 => ?_) (fun h27 => ?_)
      · skip
        refine X_aload_n (nx := 33) dX7_layWay_32 rfl rfl rfl ?_
        refine M_getP (nx := 36) dX7_layWay_33 rfl fl_RX7_10 rfl (by first | assumption | rfl | decide | omega) (by first | assumption | rfl | decide | omega) (by first | assumption | rfl | decide | omega) ?_
        refine X_iload_n (nx := 37) dX7_layWay_36 rfl rfl rfl ?_
        refine Y_Vr1 (nx := 40) dX7_layWay_37 rfl ml_RX7_106 kj_X0_at kv_X0_at (sp_X0_at (Or.inl rfl) (i := r) rfl (by omega)) (by first | assumption | rfl | decide | omega) (by first | assumption | rfl | decide | omega) (by decide) rfl (by first | decide | omega) (by exact Nat.le_of_ble_eq_true rfl) ?_
        refine X_astore (i := 4) (nx := 42) dX7_layWay_40 rfl (by decide) rfl (st_s (st_s (st_s (st_s (st_0))))) ?_
        refine X_aload_n (nx := 43) dX7_layWay_42 rfl rfl rfl ?_
        refine X_aload (nx := 45) dX7_layWay_43 rfl rfl ?_
        refine M_getI (nx := 48) dX7_layWay_45 rfl fl_RX7_145 rfl (by first | assumption | rfl | decide | omega) (by first | assumption | rfl | decide | omega) ?_
        refine X_top (r2) ?_
        refine X_iload_n (nx := 49) dX7_layWay_48 rfl rfl rfl ?_
        refine X_iconst (v := 1) (nx := 50) dX7_layWay_49 rfl rfl ?_
        refine X_iadd (nx := 51) dX7_layWay_50 rfl ?_
        refine X_top (nI_1 _) ?_
        refine Z_Vi2 (nx := 54) dX7_layWay_51 rfl ml_RX7_284 kj_X7_layWay kv_X7_layWay (hlw D (ro_ (bk S) r) (dp + 1) M hdp h hg hro hM) (by first | assumption | rfl | decide | omega) (by first | assumption | rfl | decide | omega) (by decide) rfl (by first | decide | omega) (by exact Nat.le_of_ble_eq_true rfl) (fun u51 D51 g51 => ?_)
        refine X_if_eq (tgt := 70) (nx := 57) dX7_layWay_54 rfl rfl (fun h54 => ?_) (fun h54 => ?_)
        · skip
          have e54 := LAY_n g51.2 h54
          refine X_iconst (v := 0) (nx := 71) dX7_layWay_70 rfl rfl ?_
          exact Z_reti dX7_layWay_71 (Or.inr ⟨rfl, by first | exact Or.inl rfl | exact Or.inr rfl | exact b2i_01 _ | assumption⟩) (by first | exact ⟨g51.1, by rw [lw_s h1 hrr, e54]; exact rfl⟩ | exact ⟨g51.1.tr g60.1, by rw [lw_s h1 hrr, e54]; dsimp only; rw [e63]; exact rfl⟩ | exact ⟨g51.1.tr g60.1, by rw [lw_s h1 hrr, e54]; dsimp only; rw [e63]; exact lay_1 l63⟩)
        · skip
          obtain ⟨_, M1, e54, l54⟩ := LAY_y g51.2 h54
          have h63i := h.frL g51.1
          refine X_aload_n (nx := 58) dX7_layWay_57 rfl rfl rfl ?_
          refine X_aload (nx := 60) dX7_layWay_58 rfl rfl ?_
          refine Z_Vi1 (nx := 63) dX7_layWay_60 rfl ml_RX7_287 kj_X7_lay kv_X7_lay (sp_X7_lay hr (h.frL g51.1) (hg.frL g51.1) l54) (by first | assumption | rfl | decide | omega) (by first | assumption | rfl | decide | omega) (by decide) rfl (by first | decide | omega) (by exact Nat.le_of_ble_eq_true rfl) (fun u60 D60 g60 => ?_)
          refine X_if_eq (tgt := 70) (nx := 66) dX7_layWay_63 rfl rfl (fun h63 => ?_) (fun h63 => ?_)
          · skip
            have e63 := LAY_n g60.2 h63
            refine X_iconst (v := 0) (nx := 71) dX7_layWay_70 rfl rfl ?_
            exact Z_reti dX7_layWay_71 (Or.inr ⟨rfl, by first | exact Or.inl rfl | exact Or.inr rfl | exact b2i_01 _ | assumption⟩) (by first | exact ⟨g51.1, by rw [lw_s h1 hrr, e54]; exact rfl⟩ | exact ⟨g51.1.tr g60.1, by rw [lw_s h1 hrr, e54]; dsimp only; rw [e63]; exact rfl⟩ | exact ⟨g51.1.tr g60.1, by rw [lw_s h1 hrr, e54]; dsimp only; rw [e63]; exact lay_1 l63⟩)
          · skip
            obtain ⟨_, M2, e63, l63⟩ := LAY_y g60.2 h63
            refine X_iconst (v := 1) (nx := 67) dX7_layWay_66 rfl rfl ?_
            refine X_goto (tgt := 71) dX7_layWay_67 rfl ?_
            exact Z_reti dX7_layWay_71 (Or.inr ⟨rfl, by first | exact Or.inl rfl | exact Or.inr rfl | exact b2i_01 _ | assumption⟩) (by first | exact ⟨g51.1, by rw [lw_s h1 hrr, e54]; exact rfl⟩ | exact ⟨g51.1.tr g60.1, by rw [lw_s h1 hrr, e54]; dsimp only; rw [e63]; exact rfl⟩ | exact ⟨g51.1.tr g60.1, by rw [lw_s h1 hrr, e54]; dsimp only; rw [e63]; exact lay_1 l63⟩)
      · exact absurd h27 (fun q => q (nI_lt (by omega) (by omega)))
  · skip
    rw [nI_0' (by omega)] at h1
    refine X_iconst (v := 1) (nx := 5) dX7_layWay_4 rfl rfl ?_
    exact Z_reti dX7_layWay_5 (Or.inr ⟨rfl, by first | exact Or.inl rfl | exact Or.inr rfl | exact b2i_01 _ | assumption⟩) (⟨Fr.rf, by subst h1; rw [lw_0]; exact lay_1 hM⟩)
theorem LW_0 {S : St} {K F g : Nat → Nat} : LWP 0 4 S K F g := fun D R dp M h1 h hg hR hM => sp_layWay_0 (by omega) (by omega) h hg hR hM
theorem LW_s {n d : Nat} {S : St} {K F g : Nat → Nat} (hd : 4 ≤ d) (h : LWP n d S K F g) : LWP (n + 1) (d + 1) S K F g := fun D R dp M h1 hI hg hR hM => sp_layWay_s h hd (by omega) hI hg hR hM
theorem LW_3 {S : St} {K F g : Nat → Nat} : LWP 3 7 S K F g := LW_s (by omega) (LW_s (by omega) (LW_s (by omega) LW_0))
theorem pcd_lt {L : List Nat} : ∀ n, n ≤ L.length → (∀ x ∈ L, x < 4) → pcd L n < 4 ^ n := by
  intro n
  induction n with
  | zero => intro _ _; exact Nat.one_pos
  | succ n ih =>
    intro hn h
    have := ih (by omega) h
    have h2 := h _ (getD_in (s := L) (k := n) (by omega))
    show pcd L n * 4 + L.getD n 0 < 4 ^ (n + 1)
    rw [Nat.pow_succ]; omega
theorem pnum_lt {D : Mem} {p : Nat} {L : List Nat} (h : LET D p L) : pnum L < 341 := by
  have h1 := pcd_lt L.length (Nat.le_refl _) h.2.2.2
  have h2 := h.1
  unfold pnum
  generalize pcd L L.length = c at *
  generalize L.length = n at *
  obtain rfl | rfl | rfl | rfl | rfl : n = 0 ∨ n = 1 ∨ n = 2 ∨ n = 3 ∨ n = 4 := by omega
  · have : fos 0 = 0 := by decide
    omega
  · have : fos 1 = 1 := by decide
    omega
  · have : fos 2 = 5 := by decide
    omega
  · have : fos 3 = 21 := by decide
    omega
  · have : fos 4 = 85 := by decide
    omega
theorem dX7_pathBuilt_0 : decode cX7_pathBuilt 0 = .ok (.aload_n 0, 1) := by decide +kernel
theorem dX7_pathBuilt_1 : decode cX7_pathBuilt 1 = .ok (.getfield 41, 3) := by decide +kernel
theorem dX7_pathBuilt_4 : decode cX7_pathBuilt 4 = .ok (.iconst 0, 1) := by decide +kernel
theorem dX7_pathBuilt_5 : decode cX7_pathBuilt 5 = .ok (.putfield 62, 3) := by decide +kernel
theorem dX7_pathBuilt_8 : decode cX7_pathBuilt 8 = .ok (.aload_n 0, 1) := by decide +kernel
theorem dX7_pathBuilt_9 : decode cX7_pathBuilt 9 = .ok (.getfield 10, 3) := by decide +kernel
theorem dX7_pathBuilt_12 : decode cX7_pathBuilt 12 = .ok (.iload_n 1, 1) := by decide +kernel
theorem dX7_pathBuilt_13 : decode cX7_pathBuilt 13 = .ok (.invokevirtual 106, 3) := by decide +kernel
theorem dX7_pathBuilt_16 : decode cX7_pathBuilt 16 = .ok (.astore_n 2, 1) := by decide +kernel
theorem dX7_pathBuilt_17 : decode cX7_pathBuilt 17 = .ok (.aload_n 0, 1) := by decide +kernel
theorem dX7_pathBuilt_18 : decode cX7_pathBuilt 18 = .ok (.aload_n 2, 1) := by decide +kernel
theorem dX7_pathBuilt_19 : decode cX7_pathBuilt 19 = .ok (.getfield 145, 3) := by decide +kernel
theorem dX7_pathBuilt_22 : decode cX7_pathBuilt 22 = .ok (.iconst 0, 1) := by decide +kernel
theorem dX7_pathBuilt_23 : decode cX7_pathBuilt 23 = .ok (.invokevirtual 284, 3) := by decide +kernel
theorem dX7_pathBuilt_26 : decode cX7_pathBuilt 26 = .ok (.ifCond .eq 15, 3) := by decide +kernel
theorem dX7_pathBuilt_29 : decode cX7_pathBuilt 29 = .ok (.aload_n 0, 1) := by decide +kernel
theorem dX7_pathBuilt_30 : decode cX7_pathBuilt 30 = .ok (.aload_n 2, 1) := by decide +kernel
theorem dX7_pathBuilt_31 : decode cX7_pathBuilt 31 = .ok (.invokevirtual 287, 3) := by decide +kernel
theorem dX7_pathBuilt_34 : decode cX7_pathBuilt 34 = .ok (.ifCond .eq 7, 3) := by decide +kernel
theorem dX7_pathBuilt_37 : decode cX7_pathBuilt 37 = .ok (.iconst 1, 1) := by decide +kernel
theorem dX7_pathBuilt_38 : decode cX7_pathBuilt 38 = .ok (.goto 4, 3) := by decide +kernel
theorem dX7_pathBuilt_41 : decode cX7_pathBuilt 41 = .ok (.iconst 0, 1) := by decide +kernel
theorem dX7_pathBuilt_42 : decode cX7_pathBuilt 42 = .ok (.istore_n 3, 1) := by decide +kernel
theorem dX7_pathBuilt_43 : decode cX7_pathBuilt 43 = .ok (.iload_n 3, 1) := by decide +kernel
theorem dX7_pathBuilt_44 : decode cX7_pathBuilt 44 = .ok (.ifCond .eq 13, 3) := by decide +kernel
theorem dX7_pathBuilt_47 : decode cX7_pathBuilt 47 = .ok (.aload_n 0, 1) := by decide +kernel
theorem dX7_pathBuilt_48 : decode cX7_pathBuilt 48 = .ok (.getfield 41, 3) := by decide +kernel
theorem dX7_pathBuilt_51 : decode cX7_pathBuilt 51 = .ok (.invokestatic 290, 3) := by decide +kernel
theorem dX7_pathBuilt_54 : decode cX7_pathBuilt 54 = .ok (.goto 5, 3) := by decide +kernel
theorem dX7_pathBuilt_57 : decode cX7_pathBuilt 57 = .ok (.bipush (-9), 2) := by decide +kernel
theorem dX7_pathBuilt_59 : decode cX7_pathBuilt 59 = .ok (.ireturn, 1) := by decide +kernel
theorem sp_X7_pathBuilt {S : St} {K F g : Nat → Nat} {D : Mem} {r : Nat} {x : Int32} (h : INVK D S K F) (hg : GV D g) (hr : r < cm_ (bk S)) (hx : x = nI r) : Rix 8 j_X7_pathBuilt [.ref 0, .int x] D (fun u D' => Fr inL D D' ∧ u = opI ((pathB (bk S) g r).map pnum) ∧ ∀ M, pathB (bk S) g r = some M → pnum M < 341) := by
  refine E.start 2 (ls := [some (.ref 0), some (.int x), none, none]) (by decide +kernel) (Nat.le_of_ble_eq_true rfl) rfl (Nat.le_refl _) (Nat.le_refl _) ?_
  subst hx
  have hcm := h.1.2.1.2.1
  obtain ⟨r1, r2, r3, r4, r5⟩ := h.1.1.2.2.2 r hr
  have hisR := ((isB.facts (Or.inl rfl : isB 1)).2.2.2.2.2.2 r (by omega)).2
  have hra : rt 1 r < 138 := hisR.1
  have hrc : (lay (rt 1 r)).1 = 3 := hisR.2
  have hro := (h.1.2.1.2.2 r hr).1
  have hf0 : Fr inL D (up2 D 100 1 0) := Fr.up (Or.inl rfl)
  refine X_aload_n (nx := 1) dX7_pathBuilt_0 rfl rfl rfl ?_
  refine M_getP (nx := 4) dX7_pathBuilt_1 rfl fl_RX7_41 rfl (by first | assumption | rfl | decide | omega) (by first | assumption | rfl | decide | omega) (by first | assumption | rfl | decide | omega) ?_
  refine X_iconst (v := 0) (nx := 5) dX7_pathBuilt_4 rfl rfl ?_
  refine M_putI (nx := 8) dX7_pathBuilt_5 rfl fl_RX7_62 rfl rfl (by first | assumption | rfl | decide | omega) (by first | assumption | rfl | decide | omega) ?_
  refine X_aload_n (nx := 9) dX7_pathBuilt_8 rfl rfl rfl ?_
  refine M_getP (nx := 12) dX7_pathBuilt_9 rfl fl_RX7_10 rfl (by first | assumption | rfl | decide | omega) (by first | assumption | rfl | decide | omega) (by first | assumption | rfl | decide | omega) ?_
  refine X_iload_n (nx := 13) dX7_pathBuilt_12 rfl rfl rfl ?_
  refine Y_Vr1 (nx := 16) dX7_pathBuilt_13 rfl ml_RX7_106 kj_X0_at kv_X0_at (sp_X0_at (Or.inl rfl) (i := r) rfl (by omega)) (by first | assumption | rfl | decide | omega) (by first | assumption | rfl | decide | omega) (by decide) rfl (by first | decide | omega) (by exact Nat.le_of_ble_eq_true rfl) ?_
  refine X_astore_n (i := 2) (nx := 17) dX7_pathBuilt_16 rfl rfl (by decide) rfl (st_s (st_s (st_0))) ?_
  refine X_aload_n (nx := 18) dX7_pathBuilt_17 rfl rfl rfl ?_
  refine X_aload_n (nx := 19) dX7_pathBuilt_18 rfl rfl rfl ?_
  refine M_getI (nx := 22) dX7_pathBuilt_19 rfl fl_RX7_145 rfl (by first | assumption | rfl | decide | omega) (by first | assumption | rfl | decide | omega) ?_
  refine X_top ((congrFun (up2_ne (f := D) (a := 100) (b := rt 1 r) (by unfold rt; omega)) 3).trans r2) ?_
  refine X_iconst (v := nI 0) (nx := 23) dX7_pathBuilt_22 rfl rfl ?_
  refine Z_Vi2 (nx := 26) dX7_pathBuilt_23 rfl ml_RX7_284 kj_X7_layWay kv_X7_layWay (LW_3 _ (ro_ (bk S) r) 0 [] rfl (h.frL hf0) (hg.frL hf0) hro LET.nil) (by first | assumption | rfl | decide | omega) (by first | assumption | rfl | decide | omega) (by decide) rfl (by first | decide | omega) (by exact Nat.le_of_ble_eq_true rfl) (fun u23 D23 g23 => ?_)
  refine X_if_eq (tgt := 41) (nx := 29) dX7_pathBuilt_26 rfl rfl (fun h26 => ?_) (fun h26 => ?_)
  · skip
    have e26 := LAY_n g23.2 h26
    refine X_iconst (v := 0) (nx := 42) dX7_pathBuilt_41 rfl rfl ?_
    refine X_istore_n (i := 3) (nx := 43) dX7_pathBuilt_42 rfl rfl (by decide) rfl (st_s (st_s (st_s (st_0)))) ?_
    refine X_iload_n (nx := 44) dX7_pathBuilt_43 rfl rfl rfl ?_
    refine X_if_eq (tgt := 57) (nx := 47) dX7_pathBuilt_44 rfl rfl (fun h44 => ?_) (fun h44 => ?_)
    · skip
      refine X_bipush (v := -9) (nx := 59) dX7_pathBuilt_57 rfl rfl ?_
      exact Z_reti dX7_pathBuilt_59 (Or.inl rfl) (by first | exact ⟨hf0.tr g23.1, by unfold pathB; rw [e26]; rfl, by unfold pathB; rw [e26]; intro M q; cases q⟩ | exact ⟨(hf0.tr g23.1).tr g31.1, by unfold pathB; rw [e26]; dsimp only; rw [e34]; rfl, by unfold pathB; rw [e26]; dsimp only; rw [e34]; intro M q; cases q; try exact pnum_lt l34⟩)
    · exact absurd h44 (by decide)
  · skip
    obtain ⟨_, M1, e26, l26⟩ := LAY_y g23.2 h26
    refine X_aload_n (nx := 30) dX7_pathBuilt_29 rfl rfl rfl ?_
    refine X_aload_n (nx := 31) dX7_pathBuilt_30 rfl rfl rfl ?_
    refine Z_Vi1 (nx := 34) dX7_pathBuilt_31 rfl ml_RX7_287 kj_X7_lay kv_X7_lay (sp_X7_lay hr (h.frL (hf0.tr g23.1)) (hg.frL (hf0.tr g23.1)) l26) (by first | assumption | rfl | decide | omega) (by first | assumption | rfl | decide | omega) (by decide) rfl (by first | decide | omega) (by exact Nat.le_of_ble_eq_true rfl) (fun u31 D31 g31 => ?_)
    refine X_if_eq (tgt := 41) (nx := 37) dX7_pathBuilt_34 rfl rfl (fun h34 => ?_) (fun h34 => ?_)
    · skip
      have e34 := LAY_n g31.2 h34
      refine X_iconst (v := 0) (nx := 42) dX7_pathBuilt_41 rfl rfl ?_
      refine X_istore_n (i := 3) (nx := 43) dX7_pathBuilt_42 rfl rfl (by decide) rfl (st_s (st_s (st_s (st_0)))) ?_
      refine X_iload_n (nx := 44) dX7_pathBuilt_43 rfl rfl rfl ?_
      refine X_if_eq (tgt := 57) (nx := 47) dX7_pathBuilt_44 rfl rfl (fun h44 => ?_) (fun h44 => ?_)
      · skip
        refine X_bipush (v := -9) (nx := 59) dX7_pathBuilt_57 rfl rfl ?_
        exact Z_reti dX7_pathBuilt_59 (Or.inl rfl) (by first | exact ⟨hf0.tr g23.1, by unfold pathB; rw [e26]; rfl, by unfold pathB; rw [e26]; intro M q; cases q⟩ | exact ⟨(hf0.tr g23.1).tr g31.1, by unfold pathB; rw [e26]; dsimp only; rw [e34]; rfl, by unfold pathB; rw [e26]; dsimp only; rw [e34]; intro M q; cases q; try exact pnum_lt l34⟩)
      · exact absurd h44 (by decide)
    · skip
      obtain ⟨_, M2, e34, l34⟩ := LAY_y g31.2 h34
      refine X_iconst (v := 1) (nx := 38) dX7_pathBuilt_37 rfl rfl ?_
      refine X_goto (tgt := 42) dX7_pathBuilt_38 rfl ?_
      refine X_istore_n (i := 3) (nx := 43) dX7_pathBuilt_42 rfl rfl (by decide) rfl (st_s (st_s (st_s (st_0)))) ?_
      refine X_iload_n (nx := 44) dX7_pathBuilt_43 rfl rfl rfl ?_
      refine X_if_eq (tgt := 57) (nx := 47) dX7_pathBuilt_44 rfl rfl (fun h44 => ?_) (fun h44 => ?_)
      · exact absurd h44 (by decide)
      · skip
        refine X_aload_n (nx := 48) dX7_pathBuilt_47 rfl rfl rfl ?_
        refine M_getP (nx := 51) dX7_pathBuilt_48 rfl fl_RX7_41 rfl (by first | assumption | rfl | decide | omega) (by first | assumption | rfl | decide | omega) (by first | assumption | rfl | decide | omega) ?_
        refine Y_Si1 (nx := 54) dX7_pathBuilt_51 rfl ml_RX7_290 kj_X1_numberOf ks_X1_numberOf (sp_X1_numberOf (Or.inr rfl) l34) (by first | decide | omega) (by exact Nat.le_of_ble_eq_true rfl) ?_
        refine X_goto (tgt := 59) dX7_pathBuilt_54 rfl ?_
        exact Z_reti dX7_pathBuilt_59 (Or.inl rfl) (by first | exact ⟨hf0.tr g23.1, by unfold pathB; rw [e26]; rfl, by unfold pathB; rw [e26]; intro M q; cases q⟩ | exact ⟨(hf0.tr g23.1).tr g31.1, by unfold pathB; rw [e26]; dsimp only; rw [e34]; rfl, by unfold pathB; rw [e26]; dsimp only; rw [e34]; intro M q; cases q; try exact pnum_lt l34⟩)
def gv4 (a b c e : Nat) : Nat → Nat := fun k => [a, b, c, e].getD k 0
theorem gv_of {D : Mem} {a b c e : Nat} (ha : a < 4) (hb : b < 4) (hc : c < 4) (he : e < 4) : GV (up2 (up2 (up2 (up2 D 102 0 (nI a)) 102 1 (nI b)) 102 2 (nI c)) 102 3 (nI e)) (gv4 a b c e) := by
  intro k hk
  obtain rfl | rfl | rfl | rfl : k = 0 ∨ k = 1 ∨ k = 2 ∨ k = 3 := by omega
  · exact ⟨(up2_other (by omega)).trans ((up2_other (by omega)).trans ((up2_other (by omega)).trans up2_same)), ha⟩
  · exact ⟨(up2_other (by omega)).trans ((up2_other (by omega)).trans up2_same), hb⟩
  · exact ⟨(up2_other (by omega)).trans up2_same, hc⟩
  · exact ⟨up2_same, he⟩
theorem fr102 {D : Mem} {a b c e : Int32} : Fr (fun x => x = 102) D (up2 (up2 (up2 (up2 D 102 0 a) 102 1 b) 102 2 c) 102 3 e) := fun z hz => by rw [up2_ne hz, up2_ne hz, up2_ne hz, up2_ne hz]
theorem INVK.fr102 {D D' : Mem} {S : St} {K F : Nat → Nat} (h : INVK D S K F) (hf : Fr (fun x => x = 102) D D') : INVK D' S K F := h.fr (hf.mono (fun b hb => by unfold inS; omega)) (by rw [hf 95 (by omega)])
def m_build (S : St) (x a b c e : Int32) : Int32 × St :=
  if isTh (bk S) x = true ∧ decide (0 ≤ a ∧ a < 4) = true ∧ decide (0 ≤ b ∧ b < 4) = true ∧ decide (0 ≤ c ∧ c < 4) = true ∧ decide (0 ≤ e ∧ e < 4) = true then
    if mtB (bk S) x.toNatClampNeg = true then no_ S 3 else (opI ((pathB (bk S) (gv4 a.toNatClampNeg b.toNatClampNeg c.toNatClampNeg e.toNatClampNeg) x.toNatClampNeg).map pnum), S) else no_ S 1
theorem dX7_give_0 : decode cX7_give 0 = .ok (.aload_n 0, 1) := by decide +kernel
theorem dX7_give_1 : decode cX7_give 1 = .ok (.getfield 44, 3) := by decide +kernel
theorem dX7_give_4 : decode cX7_give 4 = .ok (.iconst 0, 1) := by decide +kernel
theorem dX7_give_5 : decode cX7_give 5 = .ok (.iload_n 1, 1) := by decide +kernel
theorem dX7_give_6 : decode cX7_give 6 = .ok (.invokestatic 99, 3) := by decide +kernel
theorem dX7_give_9 : decode cX7_give 9 = .ok (.aload_n 0, 1) := by decide +kernel
theorem dX7_give_10 : decode cX7_give 10 = .ok (.getfield 44, 3) := by decide +kernel
theorem dX7_give_13 : decode cX7_give 13 = .ok (.iconst 1, 1) := by decide +kernel
theorem dX7_give_14 : decode cX7_give 14 = .ok (.iload_n 2, 1) := by decide +kernel
theorem dX7_give_15 : decode cX7_give 15 = .ok (.invokestatic 99, 3) := by decide +kernel
theorem dX7_give_18 : decode cX7_give 18 = .ok (.aload_n 0, 1) := by decide +kernel
theorem dX7_give_19 : decode cX7_give 19 = .ok (.getfield 44, 3) := by decide +kernel
theorem dX7_give_22 : decode cX7_give 22 = .ok (.iconst 2, 1) := by decide +kernel
theorem dX7_give_23 : decode cX7_give 23 = .ok (.iload_n 3, 1) := by decide +kernel
theorem dX7_give_24 : decode cX7_give 24 = .ok (.invokestatic 99, 3) := by decide +kernel
theorem dX7_give_27 : decode cX7_give 27 = .ok (.aload_n 0, 1) := by decide +kernel
theorem dX7_give_28 : decode cX7_give 28 = .ok (.getfield 44, 3) := by decide +kernel
theorem dX7_give_31 : decode cX7_give 31 = .ok (.iconst 3, 1) := by decide +kernel
theorem dX7_give_32 : decode cX7_give 32 = .ok (.iload 4, 2) := by decide +kernel
theorem dX7_give_34 : decode cX7_give 34 = .ok (.invokestatic 99, 3) := by decide +kernel
theorem dX7_give_37 : decode cX7_give 37 = .ok (.return_, 1) := by decide +kernel
theorem sp_X7_give {a b c e : Int32} {D : Mem} : Ev 2 j_X7_give [.ref 0, .int a, .int b, .int c, .int e] D (up2 (up2 (up2 (up2 D 102 0 a) 102 1 b) 102 2 c) 102 3 e) := by
  refine E.start 0 (ls := [some (.ref 0), some (.int a), some (.int b), some (.int c), some (.int e)]) (by decide +kernel) (Nat.le_of_ble_eq_true rfl) rfl (Nat.le_refl _) (Nat.le_refl _) ?_
  have hly : (lay 102).2 = 4 := by decide
  refine X_aload_n (nx := 1) dX7_give_0 rfl rfl rfl ?_
  refine M_getP (nx := 4) dX7_give_1 rfl fl_RX7_44 rfl (by first | assumption | rfl | decide | omega) (by first | assumption | rfl | decide | omega) (by first | assumption | rfl | decide | omega) ?_
  refine X_iconst (v := nI 0) (nx := 5) dX7_give_4 rfl rfl ?_
  refine X_iload_n (nx := 6) dX7_give_5 rfl rfl rfl ?_
  refine Y_Sv3 (nx := 9) dX7_give_6 rfl ml_RX7_99 kj_X7_put ks_X7_put (sp_X7_put (i := 0) (by decide) (by decide) rfl (by omega)) (by first | decide | omega) (by exact Nat.le_of_ble_eq_true rfl) ?_
  refine X_aload_n (nx := 10) dX7_give_9 rfl rfl rfl ?_
  refine M_getP (nx := 13) dX7_give_10 rfl fl_RX7_44 rfl (by first | assumption | rfl | decide | omega) (by first | assumption | rfl | decide | omega) (by first | assumption | rfl | decide | omega) ?_
  refine X_iconst (v := nI 1) (nx := 14) dX7_give_13 rfl rfl ?_
  refine X_iload_n (nx := 15) dX7_give_14 rfl rfl rfl ?_
  refine Y_Sv3 (nx := 18) dX7_give_15 rfl ml_RX7_99 kj_X7_put ks_X7_put (sp_X7_put (i := 1) (by decide) (by decide) rfl (by omega)) (by first | decide | omega) (by exact Nat.le_of_ble_eq_true rfl) ?_
  refine X_aload_n (nx := 19) dX7_give_18 rfl rfl rfl ?_
  refine M_getP (nx := 22) dX7_give_19 rfl fl_RX7_44 rfl (by first | assumption | rfl | decide | omega) (by first | assumption | rfl | decide | omega) (by first | assumption | rfl | decide | omega) ?_
  refine X_iconst (v := nI 2) (nx := 23) dX7_give_22 rfl rfl ?_
  refine X_iload_n (nx := 24) dX7_give_23 rfl rfl rfl ?_
  refine Y_Sv3 (nx := 27) dX7_give_24 rfl ml_RX7_99 kj_X7_put ks_X7_put (sp_X7_put (i := 2) (by decide) (by decide) rfl (by omega)) (by first | decide | omega) (by exact Nat.le_of_ble_eq_true rfl) ?_
  refine X_aload_n (nx := 28) dX7_give_27 rfl rfl rfl ?_
  refine M_getP (nx := 31) dX7_give_28 rfl fl_RX7_44 rfl (by first | assumption | rfl | decide | omega) (by first | assumption | rfl | decide | omega) (by first | assumption | rfl | decide | omega) ?_
  refine X_iconst (v := nI 3) (nx := 32) dX7_give_31 rfl rfl ?_
  refine X_iload (nx := 34) dX7_give_32 rfl rfl ?_
  refine Y_Sv3 (nx := 37) dX7_give_34 rfl ml_RX7_99 kj_X7_put ks_X7_put (sp_X7_put (i := 3) (by decide) (by decide) rfl (by omega)) (by first | decide | omega) (by exact Nat.le_of_ble_eq_true rfl) ?_
  exact Y_retv dX7_give_37 rfl rfl
theorem dX7_build_0 : decode cX7_build 0 = .ok (.iload_n 2, 1) := by decide +kernel
theorem dX7_build_1 : decode cX7_build 1 = .ok (.invokestatic 221, 3) := by decide +kernel
theorem dX7_build_4 : decode cX7_build 4 = .ok (.ifCond .eq 30, 3) := by decide +kernel
theorem dX7_build_7 : decode cX7_build 7 = .ok (.iload_n 3, 1) := by decide +kernel
theorem dX7_build_8 : decode cX7_build 8 = .ok (.invokestatic 221, 3) := by decide +kernel
theorem dX7_build_11 : decode cX7_build 11 = .ok (.ifCond .eq 23, 3) := by decide +kernel
theorem dX7_build_14 : decode cX7_build 14 = .ok (.iload 4, 2) := by decide +kernel
theorem dX7_build_16 : decode cX7_build 16 = .ok (.invokestatic 221, 3) := by decide +kernel
theorem dX7_build_19 : decode cX7_build 19 = .ok (.ifCond .eq 15, 3) := by decide +kernel
theorem dX7_build_22 : decode cX7_build 22 = .ok (.iload 5, 2) := by decide +kernel
theorem dX7_build_24 : decode cX7_build 24 = .ok (.invokestatic 221, 3) := by decide +kernel
theorem dX7_build_27 : decode cX7_build 27 = .ok (.ifCond .eq 7, 3) := by decide +kernel
theorem dX7_build_30 : decode cX7_build 30 = .ok (.iconst 1, 1) := by decide +kernel
theorem dX7_build_31 : decode cX7_build 31 = .ok (.goto 4, 3) := by decide +kernel
theorem dX7_build_34 : decode cX7_build 34 = .ok (.iconst 0, 1) := by decide +kernel
theorem dX7_build_35 : decode cX7_build 35 = .ok (.istore 6, 2) := by decide +kernel
theorem dX7_build_37 : decode cX7_build 37 = .ok (.aload_n 0, 1) := by decide +kernel
theorem dX7_build_38 : decode cX7_build 38 = .ok (.getfield 10, 3) := by decide +kernel
theorem dX7_build_41 : decode cX7_build 41 = .ok (.iload_n 1, 1) := by decide +kernel
theorem dX7_build_42 : decode cX7_build 42 = .ok (.invokevirtual 103, 3) := by decide +kernel
theorem dX7_build_45 : decode cX7_build 45 = .ok (.ifCond .eq 8, 3) := by decide +kernel
theorem dX7_build_48 : decode cX7_build 48 = .ok (.iload 6, 2) := by decide +kernel
theorem dX7_build_50 : decode cX7_build 50 = .ok (.ifCond .ne 9, 3) := by decide +kernel
theorem dX7_build_53 : decode cX7_build 53 = .ok (.aload_n 0, 1) := by decide +kernel
theorem dX7_build_54 : decode cX7_build 54 = .ok (.iconst (-1), 1) := by decide +kernel
theorem dX7_build_55 : decode cX7_build 55 = .ok (.invokevirtual 51, 3) := by decide +kernel
theorem dX7_build_58 : decode cX7_build 58 = .ok (.ireturn, 1) := by decide +kernel
theorem dX7_build_59 : decode cX7_build 59 = .ok (.aload_n 0, 1) := by decide +kernel
theorem dX7_build_60 : decode cX7_build 60 = .ok (.getfield 10, 3) := by decide +kernel
theorem dX7_build_63 : decode cX7_build 63 = .ok (.iload_n 1, 1) := by decide +kernel
theorem dX7_build_64 : decode cX7_build 64 = .ok (.invokevirtual 106, 3) := by decide +kernel
theorem dX7_build_67 : decode cX7_build 67 = .ok (.invokevirtual 110, 3) := by decide +kernel
theorem dX7_build_70 : decode cX7_build 70 = .ok (.ifCond .eq 10, 3) := by decide +kernel
theorem dX7_build_73 : decode cX7_build 73 = .ok (.aload_n 0, 1) := by decide +kernel
theorem dX7_build_74 : decode cX7_build 74 = .ok (.bipush (-3), 2) := by decide +kernel
theorem dX7_build_76 : decode cX7_build 76 = .ok (.invokevirtual 51, 3) := by decide +kernel
theorem dX7_build_79 : decode cX7_build 79 = .ok (.ireturn, 1) := by decide +kernel
theorem dX7_build_80 : decode cX7_build 80 = .ok (.aload_n 0, 1) := by decide +kernel
theorem dX7_build_81 : decode cX7_build 81 = .ok (.iload_n 2, 1) := by decide +kernel
theorem dX7_build_82 : decode cX7_build 82 = .ok (.iload_n 3, 1) := by decide +kernel
theorem dX7_build_83 : decode cX7_build 83 = .ok (.iload 4, 2) := by decide +kernel
theorem dX7_build_85 : decode cX7_build 85 = .ok (.iload 5, 2) := by decide +kernel
theorem dX7_build_87 : decode cX7_build 87 = .ok (.invokevirtual 224, 3) := by decide +kernel
theorem dX7_build_90 : decode cX7_build 90 = .ok (.aload_n 0, 1) := by decide +kernel
theorem dX7_build_91 : decode cX7_build 91 = .ok (.iload_n 1, 1) := by decide +kernel
theorem dX7_build_92 : decode cX7_build 92 = .ok (.invokevirtual 228, 3) := by decide +kernel
theorem dX7_build_95 : decode cX7_build 95 = .ok (.ireturn, 1) := by decide +kernel
theorem sp_X7_build {x a b c e : Int32} {S : St} {D : Mem} (h : INV1 D S) : Rix 9 j_X7_build [.ref 0, .int x, .int a, .int b, .int c, .int e] D (fun u D' => CK D (m_build S x a b c e) u D') := by
  refine E.start 1 (ls := [some (.ref 0), some (.int x), some (.int a), some (.int b), some (.int c), some (.int e), none]) (by decide +kernel) (Nat.le_of_ble_eq_true rfl) rfl (Nat.le_refl _) (Nat.le_refl _) ?_
  have hcm := h.1.2.1.2.1
  refine X_iload_n (nx := 1) dX7_build_0 rfl rfl rfl ?_
  refine Y_Si1 (nx := 4) dX7_build_1 rfl ml_RX7_221 kj_X7_isLetter ks_X7_isLetter (sp_X7_isLetter) (by first | decide | omega) (by exact Nat.le_of_ble_eq_true rfl) ?_
  refine X_if_eq (tgt := 34) (nx := 7) dX7_build_4 rfl rfl (fun h4 => ?_) (fun h4 => ?_)
  · skip
    have n4 := nb h4
    refine X_iconst (v := 0) (nx := 35) dX7_build_34 rfl rfl ?_
    refine X_istore (i := 6) (nx := 37) dX7_build_35 rfl (by decide) rfl (st_s (st_s (st_s (st_s (st_s (st_s (st_0))))))) ?_
    refine X_aload_n (nx := 38) dX7_build_37 rfl rfl rfl ?_
    refine M_getP (nx := 41) dX7_build_38 rfl fl_RX7_10 rfl (by first | assumption | rfl | decide | omega) (by first | assumption | rfl | decide | omega) (by first | assumption | rfl | decide | omega) ?_
    refine X_iload_n (nx := 42) dX7_build_41 rfl rfl rfl ?_
    refine Y_Vi1 (nx := 45) dX7_build_42 rfl ml_RX7_103 kj_X0_isThere kv_X0_isThere (sp_X0_isThere (Or.inl rfl) h.1.1) (by first | assumption | rfl | decide | omega) (by first | assumption | rfl | decide | omega) (by decide) rfl (by first | decide | omega) (by exact Nat.le_of_ble_eq_true rfl) ?_
    refine X_if_eq (tgt := 53) (nx := 48) dX7_build_45 rfl rfl (fun h45 => ?_) (fun h45 => ?_)
    · skip
      have n45 := nb h45
      refine X_aload_n (nx := 54) dX7_build_53 rfl rfl rfl ?_
      refine X_iconst (v := -1) (nx := 55) dX7_build_54 rfl rfl ?_
      refine Y_Vi1 (nx := 58) dX7_build_55 rfl ml_RX7_51 kj_X7_refuse kv_X7_refuse (sp_X7_refuse (k := 1) rfl (by omega) (by omega)) (by first | assumption | rfl | decide | omega) (by first | assumption | rfl | decide | omega) (by decide) rfl (by first | decide | omega) (by exact Nat.le_of_ble_eq_true rfl) ?_
      exact Z_reti dX7_build_58 (Or.inl rfl) (by unfold m_build; rw [if_neg (fun q => by first | exact n45 q.1 | exact n4 q.2.1 | exact n11 q.2.2.1 | exact n19 q.2.2.2.1 | exact n27 q.2.2.2.2)]; exact ck_no (k := 1) h Fr.rf (by omega) (by omega))
    · skip
      have c45 := b2i_t.mp h45
      obtain ⟨r, hr, rfl, tr⟩ := isTh_t hcm c45
      have k45 : (nI r).toNatClampNeg = r := nI_clamp (by omega)
      obtain ⟨r1, r2, r3, r4, r5⟩ := h.1.1.2.2.2 r hr
      have hisR := ((isB.facts (Or.inl rfl : isB 1)).2.2.2.2.2.2 r (by omega)).2
      have ha : rt 1 r < 138 := hisR.1
      have hc : (lay (rt 1 r)).1 = 3 := hisR.2
      refine X_iload (nx := 50) dX7_build_48 rfl rfl ?_
      refine X_if_ne (tgt := 59) (nx := 53) dX7_build_50 rfl rfl (fun h50 => ?_) (fun h50 => ?_)
      · exact absurd h50 (by decide)
      · skip
        refine X_aload_n (nx := 54) dX7_build_53 rfl rfl rfl ?_
        refine X_iconst (v := -1) (nx := 55) dX7_build_54 rfl rfl ?_
        refine Y_Vi1 (nx := 58) dX7_build_55 rfl ml_RX7_51 kj_X7_refuse kv_X7_refuse (sp_X7_refuse (k := 1) rfl (by omega) (by omega)) (by first | assumption | rfl | decide | omega) (by first | assumption | rfl | decide | omega) (by decide) rfl (by first | decide | omega) (by exact Nat.le_of_ble_eq_true rfl) ?_
        exact Z_reti dX7_build_58 (Or.inl rfl) (by unfold m_build; rw [if_neg (fun q => by first | exact n45 q.1 | exact n4 q.2.1 | exact n11 q.2.2.1 | exact n19 q.2.2.2.1 | exact n27 q.2.2.2.2)]; exact ck_no (k := 1) h Fr.rf (by omega) (by omega))
  · skip
    have c4 := b2i_t.mp h4
    obtain ⟨a1, ha1, rfl⟩ := ex_nI (N := 4) (n := 4) rfl (by decide) (of_decide_eq_true c4)
    have k4 : (nI a1).toNatClampNeg = a1 := nI_clamp (by omega)
    refine X_iload_n (nx := 8) dX7_build_7 rfl rfl rfl ?_
    refine Y_Si1 (nx := 11) dX7_build_8 rfl ml_RX7_221 kj_X7_isLetter ks_X7_isLetter (sp_X7_isLetter) (by first | decide | omega) (by exact Nat.le_of_ble_eq_true rfl) ?_
    refine X_if_eq (tgt := 34) (nx := 14) dX7_build_11 rfl rfl (fun h11 => ?_) (fun h11 => ?_)
    · skip
      have n11 := nb h11
      refine X_iconst (v := 0) (nx := 35) dX7_build_34 rfl rfl ?_
      refine X_istore (i := 6) (nx := 37) dX7_build_35 rfl (by decide) rfl (st_s (st_s (st_s (st_s (st_s (st_s (st_0))))))) ?_
      refine X_aload_n (nx := 38) dX7_build_37 rfl rfl rfl ?_
      refine M_getP (nx := 41) dX7_build_38 rfl fl_RX7_10 rfl (by first | assumption | rfl | decide | omega) (by first | assumption | rfl | decide | omega) (by first | assumption | rfl | decide | omega) ?_
      refine X_iload_n (nx := 42) dX7_build_41 rfl rfl rfl ?_
      refine Y_Vi1 (nx := 45) dX7_build_42 rfl ml_RX7_103 kj_X0_isThere kv_X0_isThere (sp_X0_isThere (Or.inl rfl) h.1.1) (by first | assumption | rfl | decide | omega) (by first | assumption | rfl | decide | omega) (by decide) rfl (by first | decide | omega) (by exact Nat.le_of_ble_eq_true rfl) ?_
      refine X_if_eq (tgt := 53) (nx := 48) dX7_build_45 rfl rfl (fun h45 => ?_) (fun h45 => ?_)
      · skip
        have n45 := nb h45
        refine X_aload_n (nx := 54) dX7_build_53 rfl rfl rfl ?_
        refine X_iconst (v := -1) (nx := 55) dX7_build_54 rfl rfl ?_
        refine Y_Vi1 (nx := 58) dX7_build_55 rfl ml_RX7_51 kj_X7_refuse kv_X7_refuse (sp_X7_refuse (k := 1) rfl (by omega) (by omega)) (by first | assumption | rfl | decide | omega) (by first | assumption | rfl | decide | omega) (by decide) rfl (by first | decide | omega) (by exact Nat.le_of_ble_eq_true rfl) ?_
        exact Z_reti dX7_build_58 (Or.inl rfl) (by unfold m_build; rw [if_neg (fun q => by first | exact n45 q.1 | exact n4 q.2.1 | exact n11 q.2.2.1 | exact n19 q.2.2.2.1 | exact n27 q.2.2.2.2)]; exact ck_no (k := 1) h Fr.rf (by omega) (by omega))
      · skip
        have c45 := b2i_t.mp h45
        obtain ⟨r, hr, rfl, tr⟩ := isTh_t hcm c45
        have k45 : (nI r).toNatClampNeg = r := nI_clamp (by omega)
        obtain ⟨r1, r2, r3, r4, r5⟩ := h.1.1.2.2.2 r hr
        have hisR := ((isB.facts (Or.inl rfl : isB 1)).2.2.2.2.2.2 r (by omega)).2
        have ha : rt 1 r < 138 := hisR.1
        have hc : (lay (rt 1 r)).1 = 3 := hisR.2
        refine X_iload (nx := 50) dX7_build_48 rfl rfl ?_
        refine X_if_ne (tgt := 59) (nx := 53) dX7_build_50 rfl rfl (fun h50 => ?_) (fun h50 => ?_)
        · exact absurd h50 (by decide)
        · skip
          refine X_aload_n (nx := 54) dX7_build_53 rfl rfl rfl ?_
          refine X_iconst (v := -1) (nx := 55) dX7_build_54 rfl rfl ?_
          refine Y_Vi1 (nx := 58) dX7_build_55 rfl ml_RX7_51 kj_X7_refuse kv_X7_refuse (sp_X7_refuse (k := 1) rfl (by omega) (by omega)) (by first | assumption | rfl | decide | omega) (by first | assumption | rfl | decide | omega) (by decide) rfl (by first | decide | omega) (by exact Nat.le_of_ble_eq_true rfl) ?_
          exact Z_reti dX7_build_58 (Or.inl rfl) (by unfold m_build; rw [if_neg (fun q => by first | exact n45 q.1 | exact n4 q.2.1 | exact n11 q.2.2.1 | exact n19 q.2.2.2.1 | exact n27 q.2.2.2.2)]; exact ck_no (k := 1) h Fr.rf (by omega) (by omega))
    · skip
      have c11 := b2i_t.mp h11
      obtain ⟨b1, hb1, rfl⟩ := ex_nI (N := 4) (n := 4) rfl (by decide) (of_decide_eq_true c11)
      have k11 : (nI b1).toNatClampNeg = b1 := nI_clamp (by omega)
      refine X_iload (nx := 16) dX7_build_14 rfl rfl ?_
      refine Y_Si1 (nx := 19) dX7_build_16 rfl ml_RX7_221 kj_X7_isLetter ks_X7_isLetter (sp_X7_isLetter) (by first | decide | omega) (by exact Nat.le_of_ble_eq_true rfl) ?_
      refine X_if_eq (tgt := 34) (nx := 22) dX7_build_19 rfl rfl (fun h19 => ?_) (fun h19 => ?_)
      · skip
        have n19 := nb h19
        refine X_iconst (v := 0) (nx := 35) dX7_build_34 rfl rfl ?_
        refine X_istore (i := 6) (nx := 37) dX7_build_35 rfl (by decide) rfl (st_s (st_s (st_s (st_s (st_s (st_s (st_0))))))) ?_
        refine X_aload_n (nx := 38) dX7_build_37 rfl rfl rfl ?_
        refine M_getP (nx := 41) dX7_build_38 rfl fl_RX7_10 rfl (by first | assumption | rfl | decide | omega) (by first | assumption | rfl | decide | omega) (by first | assumption | rfl | decide | omega) ?_
        refine X_iload_n (nx := 42) dX7_build_41 rfl rfl rfl ?_
        refine Y_Vi1 (nx := 45) dX7_build_42 rfl ml_RX7_103 kj_X0_isThere kv_X0_isThere (sp_X0_isThere (Or.inl rfl) h.1.1) (by first | assumption | rfl | decide | omega) (by first | assumption | rfl | decide | omega) (by decide) rfl (by first | decide | omega) (by exact Nat.le_of_ble_eq_true rfl) ?_
        refine X_if_eq (tgt := 53) (nx := 48) dX7_build_45 rfl rfl (fun h45 => ?_) (fun h45 => ?_)
        · skip
          have n45 := nb h45
          refine X_aload_n (nx := 54) dX7_build_53 rfl rfl rfl ?_
          refine X_iconst (v := -1) (nx := 55) dX7_build_54 rfl rfl ?_
          refine Y_Vi1 (nx := 58) dX7_build_55 rfl ml_RX7_51 kj_X7_refuse kv_X7_refuse (sp_X7_refuse (k := 1) rfl (by omega) (by omega)) (by first | assumption | rfl | decide | omega) (by first | assumption | rfl | decide | omega) (by decide) rfl (by first | decide | omega) (by exact Nat.le_of_ble_eq_true rfl) ?_
          exact Z_reti dX7_build_58 (Or.inl rfl) (by unfold m_build; rw [if_neg (fun q => by first | exact n45 q.1 | exact n4 q.2.1 | exact n11 q.2.2.1 | exact n19 q.2.2.2.1 | exact n27 q.2.2.2.2)]; exact ck_no (k := 1) h Fr.rf (by omega) (by omega))
        · skip
          have c45 := b2i_t.mp h45
          obtain ⟨r, hr, rfl, tr⟩ := isTh_t hcm c45
          have k45 : (nI r).toNatClampNeg = r := nI_clamp (by omega)
          obtain ⟨r1, r2, r3, r4, r5⟩ := h.1.1.2.2.2 r hr
          have hisR := ((isB.facts (Or.inl rfl : isB 1)).2.2.2.2.2.2 r (by omega)).2
          have ha : rt 1 r < 138 := hisR.1
          have hc : (lay (rt 1 r)).1 = 3 := hisR.2
          refine X_iload (nx := 50) dX7_build_48 rfl rfl ?_
          refine X_if_ne (tgt := 59) (nx := 53) dX7_build_50 rfl rfl (fun h50 => ?_) (fun h50 => ?_)
          · exact absurd h50 (by decide)
          · skip
            refine X_aload_n (nx := 54) dX7_build_53 rfl rfl rfl ?_
            refine X_iconst (v := -1) (nx := 55) dX7_build_54 rfl rfl ?_
            refine Y_Vi1 (nx := 58) dX7_build_55 rfl ml_RX7_51 kj_X7_refuse kv_X7_refuse (sp_X7_refuse (k := 1) rfl (by omega) (by omega)) (by first | assumption | rfl | decide | omega) (by first | assumption | rfl | decide | omega) (by decide) rfl (by first | decide | omega) (by exact Nat.le_of_ble_eq_true rfl) ?_
            exact Z_reti dX7_build_58 (Or.inl rfl) (by unfold m_build; rw [if_neg (fun q => by first | exact n45 q.1 | exact n4 q.2.1 | exact n11 q.2.2.1 | exact n19 q.2.2.2.1 | exact n27 q.2.2.2.2)]; exact ck_no (k := 1) h Fr.rf (by omega) (by omega))
      · skip
        have c19 := b2i_t.mp h19
        obtain ⟨c1, hc1, rfl⟩ := ex_nI (N := 4) (n := 4) rfl (by decide) (of_decide_eq_true c19)
        have k19 : (nI c1).toNatClampNeg = c1 := nI_clamp (by omega)
        refine X_iload (nx := 24) dX7_build_22 rfl rfl ?_
        refine Y_Si1 (nx := 27) dX7_build_24 rfl ml_RX7_221 kj_X7_isLetter ks_X7_isLetter (sp_X7_isLetter) (by first | decide | omega) (by exact Nat.le_of_ble_eq_true rfl) ?_
        refine X_if_eq (tgt := 34) (nx := 30) dX7_build_27 rfl rfl (fun h27 => ?_) (fun h27 => ?_)
        · skip
          have n27 := nb h27
          refine X_iconst (v := 0) (nx := 35) dX7_build_34 rfl rfl ?_
          refine X_istore (i := 6) (nx := 37) dX7_build_35 rfl (by decide) rfl (st_s (st_s (st_s (st_s (st_s (st_s (st_0))))))) ?_
          refine X_aload_n (nx := 38) dX7_build_37 rfl rfl rfl ?_
          refine M_getP (nx := 41) dX7_build_38 rfl fl_RX7_10 rfl (by first | assumption | rfl | decide | omega) (by first | assumption | rfl | decide | omega) (by first | assumption | rfl | decide | omega) ?_
          refine X_iload_n (nx := 42) dX7_build_41 rfl rfl rfl ?_
          refine Y_Vi1 (nx := 45) dX7_build_42 rfl ml_RX7_103 kj_X0_isThere kv_X0_isThere (sp_X0_isThere (Or.inl rfl) h.1.1) (by first | assumption | rfl | decide | omega) (by first | assumption | rfl | decide | omega) (by decide) rfl (by first | decide | omega) (by exact Nat.le_of_ble_eq_true rfl) ?_
          refine X_if_eq (tgt := 53) (nx := 48) dX7_build_45 rfl rfl (fun h45 => ?_) (fun h45 => ?_)
          · skip
            have n45 := nb h45
            refine X_aload_n (nx := 54) dX7_build_53 rfl rfl rfl ?_
            refine X_iconst (v := -1) (nx := 55) dX7_build_54 rfl rfl ?_
            refine Y_Vi1 (nx := 58) dX7_build_55 rfl ml_RX7_51 kj_X7_refuse kv_X7_refuse (sp_X7_refuse (k := 1) rfl (by omega) (by omega)) (by first | assumption | rfl | decide | omega) (by first | assumption | rfl | decide | omega) (by decide) rfl (by first | decide | omega) (by exact Nat.le_of_ble_eq_true rfl) ?_
            exact Z_reti dX7_build_58 (Or.inl rfl) (by unfold m_build; rw [if_neg (fun q => by first | exact n45 q.1 | exact n4 q.2.1 | exact n11 q.2.2.1 | exact n19 q.2.2.2.1 | exact n27 q.2.2.2.2)]; exact ck_no (k := 1) h Fr.rf (by omega) (by omega))
          · skip
            have c45 := b2i_t.mp h45
            obtain ⟨r, hr, rfl, tr⟩ := isTh_t hcm c45
            have k45 : (nI r).toNatClampNeg = r := nI_clamp (by omega)
            obtain ⟨r1, r2, r3, r4, r5⟩ := h.1.1.2.2.2 r hr
            have hisR := ((isB.facts (Or.inl rfl : isB 1)).2.2.2.2.2.2 r (by omega)).2
            have ha : rt 1 r < 138 := hisR.1
            have hc : (lay (rt 1 r)).1 = 3 := hisR.2
            refine X_iload (nx := 50) dX7_build_48 rfl rfl ?_
            refine X_if_ne (tgt := 59) (nx := 53) dX7_build_50 rfl rfl (fun h50 => ?_) (fun h50 => ?_)
            · exact absurd h50 (by decide)
            · skip
              refine X_aload_n (nx := 54) dX7_build_53 rfl rfl rfl ?_
              refine X_iconst (v := -1) (nx := 55) dX7_build_54 rfl rfl ?_
              refine Y_Vi1 (nx := 58) dX7_build_55 rfl ml_RX7_51 kj_X7_refuse kv_X7_refuse (sp_X7_refuse (k := 1) rfl (by omega) (by omega)) (by first | assumption | rfl | decide | omega) (by first | assumption | rfl | decide | omega) (by decide) rfl (by first | decide | omega) (by exact Nat.le_of_ble_eq_true rfl) ?_
              exact Z_reti dX7_build_58 (Or.inl rfl) (by unfold m_build; rw [if_neg (fun q => by first | exact n45 q.1 | exact n4 q.2.1 | exact n11 q.2.2.1 | exact n19 q.2.2.2.1 | exact n27 q.2.2.2.2)]; exact ck_no (k := 1) h Fr.rf (by omega) (by omega))
        · skip
          have c27 := b2i_t.mp h27
          obtain ⟨e1, he1, rfl⟩ := ex_nI (N := 4) (n := 4) rfl (by decide) (of_decide_eq_true c27)
          have k27 : (nI e1).toNatClampNeg = e1 := nI_clamp (by omega)
          refine X_iconst (v := 1) (nx := 31) dX7_build_30 rfl rfl ?_
          refine X_goto (tgt := 35) dX7_build_31 rfl ?_
          refine X_istore (i := 6) (nx := 37) dX7_build_35 rfl (by decide) rfl (st_s (st_s (st_s (st_s (st_s (st_s (st_0))))))) ?_
          refine X_aload_n (nx := 38) dX7_build_37 rfl rfl rfl ?_
          refine M_getP (nx := 41) dX7_build_38 rfl fl_RX7_10 rfl (by first | assumption | rfl | decide | omega) (by first | assumption | rfl | decide | omega) (by first | assumption | rfl | decide | omega) ?_
          refine X_iload_n (nx := 42) dX7_build_41 rfl rfl rfl ?_
          refine Y_Vi1 (nx := 45) dX7_build_42 rfl ml_RX7_103 kj_X0_isThere kv_X0_isThere (sp_X0_isThere (Or.inl rfl) h.1.1) (by first | assumption | rfl | decide | omega) (by first | assumption | rfl | decide | omega) (by decide) rfl (by first | decide | omega) (by exact Nat.le_of_ble_eq_true rfl) ?_
          refine X_if_eq (tgt := 53) (nx := 48) dX7_build_45 rfl rfl (fun h45 => ?_) (fun h45 => ?_)
          · skip
            have n45 := nb h45
            refine X_aload_n (nx := 54) dX7_build_53 rfl rfl rfl ?_
            refine X_iconst (v := -1) (nx := 55) dX7_build_54 rfl rfl ?_
            refine Y_Vi1 (nx := 58) dX7_build_55 rfl ml_RX7_51 kj_X7_refuse kv_X7_refuse (sp_X7_refuse (k := 1) rfl (by omega) (by omega)) (by first | assumption | rfl | decide | omega) (by first | assumption | rfl | decide | omega) (by decide) rfl (by first | decide | omega) (by exact Nat.le_of_ble_eq_true rfl) ?_
            exact Z_reti dX7_build_58 (Or.inl rfl) (by unfold m_build; rw [if_neg (fun q => by first | exact n45 q.1 | exact n4 q.2.1 | exact n11 q.2.2.1 | exact n19 q.2.2.2.1 | exact n27 q.2.2.2.2)]; exact ck_no (k := 1) h Fr.rf (by omega) (by omega))
          · skip
            have c45 := b2i_t.mp h45
            obtain ⟨r, hr, rfl, tr⟩ := isTh_t hcm c45
            have k45 : (nI r).toNatClampNeg = r := nI_clamp (by omega)
            obtain ⟨r1, r2, r3, r4, r5⟩ := h.1.1.2.2.2 r hr
            have hisR := ((isB.facts (Or.inl rfl : isB 1)).2.2.2.2.2.2 r (by omega)).2
            have ha : rt 1 r < 138 := hisR.1
            have hc : (lay (rt 1 r)).1 = 3 := hisR.2
            refine X_iload (nx := 50) dX7_build_48 rfl rfl ?_
            refine X_if_ne (tgt := 59) (nx := 53) dX7_build_50 rfl rfl (fun h50 => ?_) (fun h50 => ?_)
            · skip
              refine X_aload_n (nx := 60) dX7_build_59 rfl rfl rfl ?_
              refine M_getP (nx := 63) dX7_build_60 rfl fl_RX7_10 rfl (by first | assumption | rfl | decide | omega) (by first | assumption | rfl | decide | omega) (by first | assumption | rfl | decide | omega) ?_
              refine X_iload_n (nx := 64) dX7_build_63 rfl rfl rfl ?_
              refine Y_Vr1 (nx := 67) dX7_build_64 rfl ml_RX7_106 kj_X0_at kv_X0_at (sp_X0_at (Or.inl rfl) (i := r) rfl (by omega)) (by first | assumption | rfl | decide | omega) (by first | assumption | rfl | decide | omega) (by decide) rfl (by first | decide | omega) (by exact Nat.le_of_ble_eq_true rfl) ?_
              refine Y_Vi0 (nx := 70) dX7_build_67 rfl ml_RX7_110 kj_X4_isMount kv_X4_isMount (sp_X4_isMount hisR) (by first | assumption | rfl | decide | omega) (by first | assumption | rfl | decide | omega) (by decide) rfl (by first | decide | omega) (by exact Nat.le_of_ble_eq_true rfl) ?_
              refine X_if_eq (tgt := 80) (nx := 73) dX7_build_70 rfl rfl (fun h70 => ?_) (fun h70 => ?_)
              · skip
                have n70 := nb h70
                rw [r4] at n70
                have m70 : ¬ mtB (bk S) r = true := n70
                refine X_aload_n (nx := 81) dX7_build_80 rfl rfl rfl ?_
                refine X_iload_n (nx := 82) dX7_build_81 rfl rfl rfl ?_
                refine X_iload_n (nx := 83) dX7_build_82 rfl rfl rfl ?_
                refine X_iload (nx := 85) dX7_build_83 rfl rfl ?_
                refine X_iload (nx := 87) dX7_build_85 rfl rfl ?_
                refine Y_Vv4 (nx := 90) dX7_build_87 rfl ml_RX7_224 kj_X7_give kv_X7_give (sp_X7_give) (by first | assumption | rfl | decide | omega) (by first | assumption | rfl | decide | omega) (by decide) rfl (by first | decide | omega) (by exact Nat.le_of_ble_eq_true rfl) ?_
                refine X_aload_n (nx := 91) dX7_build_90 rfl rfl rfl ?_
                refine X_iload_n (nx := 92) dX7_build_91 rfl rfl rfl ?_
                refine Z_Vi1 (nx := 95) dX7_build_92 rfl ml_RX7_228 kj_X7_pathBuilt kv_X7_pathBuilt (sp_X7_pathBuilt (h.fr102 fr102) (gv_of ha1 hb1 hc1 he1) hr rfl) (by first | assumption | rfl | decide | omega) (by first | assumption | rfl | decide | omega) (by decide) rfl (by first | decide | omega) (by exact Nat.le_of_ble_eq_true rfl) (fun u92 D92 g92 => ?_)
                exact Z_reti dX7_build_95 (Or.inl rfl) (by unfold m_build; rw [if_pos ⟨c45, c4, c11, c19, c27⟩, k45, if_neg m70, k4, k11, k19, k27]; exact ck_s g92.2.1 ((h.fr102 fr102).frL g92.1) ((fr102.mono (fun b hb => by unfold inC; omega)).tr (g92.1.mono (fun b hb => by unfold inL at hb; unfold inC; omega))))
              · skip
                have c70 := b2i_t.mp h70
                rw [r4] at c70
                have m70 : mtB (bk S) r = true := c70
                refine X_aload_n (nx := 74) dX7_build_73 rfl rfl rfl ?_
                refine X_bipush (v := -3) (nx := 76) dX7_build_74 rfl rfl ?_
                refine Y_Vi1 (nx := 79) dX7_build_76 rfl ml_RX7_51 kj_X7_refuse kv_X7_refuse (sp_X7_refuse (k := 3) rfl (by omega) (by omega)) (by first | assumption | rfl | decide | omega) (by first | assumption | rfl | decide | omega) (by decide) rfl (by first | decide | omega) (by exact Nat.le_of_ble_eq_true rfl) ?_
                exact Z_reti dX7_build_79 (Or.inl rfl) (by unfold m_build; rw [if_pos ⟨c45, c4, c11, c19, c27⟩, k45, if_pos m70]; exact ck_no (k := 3) h Fr.rf (by omega) (by omega))
            · exact absurd h50 (by decide)
/-- what the i-th try of back gives -/
def gB (i : Nat) : Nat → Nat := gv4 (i / 64 % 4) (i / 16 % 4) (i / 4 % 4) (i % 4)
def bkP (S : St) (r i : Nat) : Bool := match pathB (bk S) (gB i) r with
  | none => false
  | some M => decide (ME S (avN (bk S) r) (pnum M) = some r)
def m_back (S : St) (x : Int32) : Int32 × St :=
  if isTh (bk S) x = true then if mtB (bk S) x.toNatClampNeg = true then no_ S 3 else (nI (cn (bkP S x.toNatClampNeg) 256), S) else no_ S 1
theorem shr_3 {i k : Nat} (s : Int32) (hi : i < 256) (hs : (s.toBitVec.smod 32).toNat = k) : (nI i >>> s) &&& 3 = nI (i / 2 ^ k % 4) := by
  rw [pk_shrN (by omega) s k hs, pk_andN (Nat.lt_of_le_of_lt (Nat.div_le_self _ _) (by omega)) 2 (by decide)]
theorem pb_no {S : St} {g : Nat → Nat} {r : Nat} {u : Int32} (h : u = opI ((pathB (bk S) g r).map pnum)) (h2 : ∀ M, pathB (bk S) g r = some M → pnum M < 341) (hu : u < 0) : pathB (bk S) g r = none := by
  cases hp : pathB (bk S) g r with
  | none => rfl
  | some M => rw [h, hp] at hu; exact absurd hu (nI_neg (show pnum M < 2147483648 by have := h2 M hp; omega))
theorem pb_lt {S : St} {g : Nat → Nat} {r : Nat} {u : Int32} (h : u = opI ((pathB (bk S) g r).map pnum)) (hu : ¬ u < 0) : ∃ M, pathB (bk S) g r = some M ∧ u = nI (pnum M) := by
  cases hp : pathB (bk S) g r with
  | none => rw [h, hp] at hu; exact absurd (by decide) hu
  | some M => exact ⟨M, rfl, by rw [h, hp]; rfl⟩
theorem dX7_back_0 : decode cX7_back 0 = .ok (.aload_n 0, 1) := by decide +kernel
theorem dX7_back_1 : decode cX7_back 1 = .ok (.getfield 10, 3) := by decide +kernel
theorem dX7_back_4 : decode cX7_back 4 = .ok (.iload_n 1, 1) := by decide +kernel
theorem dX7_back_5 : decode cX7_back 5 = .ok (.invokevirtual 103, 3) := by decide +kernel
theorem dX7_back_8 : decode cX7_back 8 = .ok (.ifCond .ne 9, 3) := by decide +kernel
theorem dX7_back_11 : decode cX7_back 11 = .ok (.aload_n 0, 1) := by decide +kernel
theorem dX7_back_12 : decode cX7_back 12 = .ok (.iconst (-1), 1) := by decide +kernel
theorem dX7_back_13 : decode cX7_back 13 = .ok (.invokevirtual 51, 3) := by decide +kernel
theorem dX7_back_16 : decode cX7_back 16 = .ok (.ireturn, 1) := by decide +kernel
theorem dX7_back_17 : decode cX7_back 17 = .ok (.aload_n 0, 1) := by decide +kernel
theorem dX7_back_18 : decode cX7_back 18 = .ok (.getfield 10, 3) := by decide +kernel
theorem dX7_back_21 : decode cX7_back 21 = .ok (.iload_n 1, 1) := by decide +kernel
theorem dX7_back_22 : decode cX7_back 22 = .ok (.invokevirtual 106, 3) := by decide +kernel
theorem dX7_back_25 : decode cX7_back 25 = .ok (.invokevirtual 110, 3) := by decide +kernel
theorem dX7_back_28 : decode cX7_back 28 = .ok (.ifCond .eq 10, 3) := by decide +kernel
theorem dX7_back_31 : decode cX7_back 31 = .ok (.aload_n 0, 1) := by decide +kernel
theorem dX7_back_32 : decode cX7_back 32 = .ok (.bipush (-3), 2) := by decide +kernel
theorem dX7_back_34 : decode cX7_back 34 = .ok (.invokevirtual 51, 3) := by decide +kernel
theorem dX7_back_37 : decode cX7_back 37 = .ok (.ireturn, 1) := by decide +kernel
theorem dX7_back_38 : decode cX7_back 38 = .ok (.aload_n 0, 1) := by decide +kernel
theorem dX7_back_39 : decode cX7_back 39 = .ok (.getfield 10, 3) := by decide +kernel
theorem dX7_back_42 : decode cX7_back 42 = .ok (.invokevirtual 125, 3) := by decide +kernel
theorem dX7_back_45 : decode cX7_back 45 = .ok (.istore_n 2, 1) := by decide +kernel
theorem dX7_back_46 : decode cX7_back 46 = .ok (.aload_n 0, 1) := by decide +kernel
theorem dX7_back_47 : decode cX7_back 47 = .ok (.iload_n 1, 1) := by decide +kernel
theorem dX7_back_48 : decode cX7_back 48 = .ok (.invokevirtual 200, 3) := by decide +kernel
theorem dX7_back_51 : decode cX7_back 51 = .ok (.istore_n 3, 1) := by decide +kernel
theorem dX7_back_52 : decode cX7_back 52 = .ok (.iconst 0, 1) := by decide +kernel
theorem dX7_back_53 : decode cX7_back 53 = .ok (.istore 4, 2) := by decide +kernel
theorem dX7_back_55 : decode cX7_back 55 = .ok (.iconst 0, 1) := by decide +kernel
theorem dX7_back_56 : decode cX7_back 56 = .ok (.istore 5, 2) := by decide +kernel
theorem dX7_back_58 : decode cX7_back 58 = .ok (.iload 5, 2) := by decide +kernel
theorem dX7_back_60 : decode cX7_back 60 = .ok (.sipush 256, 3) := by decide +kernel
theorem dX7_back_63 : decode cX7_back 63 = .ok (.if_icmp .ge 66, 3) := by decide +kernel
theorem dX7_back_66 : decode cX7_back 66 = .ok (.aload_n 0, 1) := by decide +kernel
theorem dX7_back_67 : decode cX7_back 67 = .ok (.iload 5, 2) := by decide +kernel
theorem dX7_back_69 : decode cX7_back 69 = .ok (.bipush 6, 2) := by decide +kernel
theorem dX7_back_71 : decode cX7_back 71 = .ok (.ishr, 1) := by decide +kernel
theorem dX7_back_72 : decode cX7_back 72 = .ok (.iconst 3, 1) := by decide +kernel
theorem dX7_back_73 : decode cX7_back 73 = .ok (.iand, 1) := by decide +kernel
theorem dX7_back_74 : decode cX7_back 74 = .ok (.iload 5, 2) := by decide +kernel
theorem dX7_back_76 : decode cX7_back 76 = .ok (.iconst 4, 1) := by decide +kernel
theorem dX7_back_77 : decode cX7_back 77 = .ok (.ishr, 1) := by decide +kernel
theorem dX7_back_78 : decode cX7_back 78 = .ok (.iconst 3, 1) := by decide +kernel
theorem dX7_back_79 : decode cX7_back 79 = .ok (.iand, 1) := by decide +kernel
theorem dX7_back_80 : decode cX7_back 80 = .ok (.iload 5, 2) := by decide +kernel
theorem dX7_back_82 : decode cX7_back 82 = .ok (.iconst 2, 1) := by decide +kernel
theorem dX7_back_83 : decode cX7_back 83 = .ok (.ishr, 1) := by decide +kernel
theorem dX7_back_84 : decode cX7_back 84 = .ok (.iconst 3, 1) := by decide +kernel
theorem dX7_back_85 : decode cX7_back 85 = .ok (.iand, 1) := by decide +kernel
theorem dX7_back_86 : decode cX7_back 86 = .ok (.iload 5, 2) := by decide +kernel
theorem dX7_back_88 : decode cX7_back 88 = .ok (.iconst 3, 1) := by decide +kernel
theorem dX7_back_89 : decode cX7_back 89 = .ok (.iand, 1) := by decide +kernel
theorem dX7_back_90 : decode cX7_back 90 = .ok (.invokevirtual 224, 3) := by decide +kernel
theorem dX7_back_93 : decode cX7_back 93 = .ok (.aload_n 0, 1) := by decide +kernel
theorem dX7_back_94 : decode cX7_back 94 = .ok (.iload_n 1, 1) := by decide +kernel
theorem dX7_back_95 : decode cX7_back 95 = .ok (.invokevirtual 228, 3) := by decide +kernel
theorem dX7_back_98 : decode cX7_back 98 = .ok (.istore 6, 2) := by decide +kernel
theorem dX7_back_100 : decode cX7_back 100 = .ok (.iload 6, 2) := by decide +kernel
theorem dX7_back_102 : decode cX7_back 102 = .ok (.ifCond .lt 21, 3) := by decide +kernel
theorem dX7_back_105 : decode cX7_back 105 = .ok (.aload_n 0, 1) := by decide +kernel
theorem dX7_back_106 : decode cX7_back 106 = .ok (.getfield 25, 3) := by decide +kernel
theorem dX7_back_109 : decode cX7_back 109 = .ok (.iload 6, 2) := by decide +kernel
theorem dX7_back_111 : decode cX7_back 111 = .ok (.iload_n 3, 1) := by decide +kernel
theorem dX7_back_112 : decode cX7_back 112 = .ok (.iload_n 2, 1) := by decide +kernel
theorem dX7_back_113 : decode cX7_back 113 = .ok (.invokevirtual 180, 3) := by decide +kernel
theorem dX7_back_116 : decode cX7_back 116 = .ok (.iload_n 1, 1) := by decide +kernel
theorem dX7_back_117 : decode cX7_back 117 = .ok (.if_icmp .ne 6, 3) := by decide +kernel
theorem dX7_back_120 : decode cX7_back 120 = .ok (.iinc 4 1, 3) := by decide +kernel
theorem dX7_back_123 : decode cX7_back 123 = .ok (.iinc 5 1, 3) := by decide +kernel
theorem dX7_back_126 : decode cX7_back 126 = .ok (.goto (-68), 3) := by decide +kernel
theorem dX7_back_129 : decode cX7_back 129 = .ok (.iload 4, 2) := by decide +kernel
theorem dX7_back_131 : decode cX7_back 131 = .ok (.ireturn, 1) := by decide +kernel
theorem lp_back {S : St} {D : Mem} {r : Nat} (hr : r < cm_ (bk S)) (hm : mtB (bk S) r = false) : ∀ (m : Nat) (i : Nat) (D1 : Mem) (y : Option Value), i + m = 256 → INV1 D1 S → Fr inC D D1 → X 21 138 j_X7_back 58 [some (.ref 0), some (.int (nI r)), some (.int (nI (wS S))), some (.int (nI (avN (bk S) r))), some (.int (nI (cn (bkP S r) i))), some (.int (nI i)), y] [] (138, P0, D1) (fun x σ => ∃ (u : Int32) (D' : Mem), x = [.int u] ∧ σ = wd D' ∧ CK D (nI (cn (bkP S r) 256), S) u D') := by
  intro m
  induction m with
  | zero =>
    intro i D1 y hi h hf
    have hcm := h.1.2.1.2.1
    refine X_iload (nx := 60) dX7_back_58 rfl rfl ?_
    refine X_sipush (v := nI 256) (nx := 63) dX7_back_60 rfl rfl ?_
    refine X_icmp_ge (tgt := 129) (nx := 66) dX7_back_63 rfl rfl (fun h63 => ?_) (fun h63 => ?_)
    · skip
      refine X_iload (nx := 131) dX7_back_129 rfl rfl ?_
      exact Z_reti dX7_back_131 (Or.inl rfl) (by obtain rfl : i = 256 := (by omega); exact ck_s rfl h hf)
    · exact absurd h63 (fun q => q (nI_le (by omega) (by omega)))
  | succ m ih =>
    intro i D1 y hi h hf
    have hcm := h.1.2.1.2.1
    obtain ⟨v1, v2⟩ := avN_eq h.1.2.1 hr hm
    refine X_iload (nx := 60) dX7_back_58 rfl rfl ?_
    refine X_sipush (v := nI 256) (nx := 63) dX7_back_60 rfl rfl ?_
    refine X_icmp_ge (tgt := 129) (nx := 66) dX7_back_63 rfl rfl (fun h63 => ?_) (fun h63 => ?_)
    · exact absurd h63 (nI_ge (by omega) (by omega))
    · skip
      refine X_aload_n (nx := 67) dX7_back_66 rfl rfl rfl ?_
      refine X_iload (nx := 69) dX7_back_67 rfl rfl ?_
      refine X_bipush (v := 6) (nx := 71) dX7_back_69 rfl rfl ?_
      refine X_ishr (nx := 72) dX7_back_71 rfl ?_
      refine X_iconst (v := 3) (nx := 73) dX7_back_72 rfl rfl ?_
      refine X_iand (nx := 74) dX7_back_73 rfl ?_
      refine X_top (show _ = nI (i / 64 % 4) from shr_3 (k := 6) _ (by omega) (by decide)) ?_
      refine X_iload (nx := 76) dX7_back_74 rfl rfl ?_
      refine X_iconst (v := 4) (nx := 77) dX7_back_76 rfl rfl ?_
      refine X_ishr (nx := 78) dX7_back_77 rfl ?_
      refine X_iconst (v := 3) (nx := 79) dX7_back_78 rfl rfl ?_
      refine X_iand (nx := 80) dX7_back_79 rfl ?_
      refine X_top (show _ = nI (i / 16 % 4) from shr_3 (k := 4) _ (by omega) (by decide)) ?_
      refine X_iload (nx := 82) dX7_back_80 rfl rfl ?_
      refine X_iconst (v := 2) (nx := 83) dX7_back_82 rfl rfl ?_
      refine X_ishr (nx := 84) dX7_back_83 rfl ?_
      refine X_iconst (v := 3) (nx := 85) dX7_back_84 rfl rfl ?_
      refine X_iand (nx := 86) dX7_back_85 rfl ?_
      refine X_top (show _ = nI (i / 4 % 4) from shr_3 (k := 2) _ (by omega) (by decide)) ?_
      refine X_iload (nx := 88) dX7_back_86 rfl rfl ?_
      refine X_iconst (v := 3) (nx := 89) dX7_back_88 rfl rfl ?_
      refine X_iand (nx := 90) dX7_back_89 rfl ?_
      refine X_top (show _ = nI (i % 4) from pk_andN (by omega) 2 (by decide)) ?_
      refine Y_Vv4 (nx := 93) dX7_back_90 rfl ml_RX7_224 kj_X7_give kv_X7_give (sp_X7_give) (by first | assumption | rfl | decide | omega) (by first | assumption | rfl | decide | omega) (by decide) rfl (by first | decide | omega) (by exact Nat.le_of_ble_eq_true rfl) ?_
      refine X_aload_n (nx := 94) dX7_back_93 rfl rfl rfl ?_
      refine X_iload_n (nx := 95) dX7_back_94 rfl rfl rfl ?_
      refine Z_Vi1 (nx := 98) dX7_back_95 rfl ml_RX7_228 kj_X7_pathBuilt kv_X7_pathBuilt (sp_X7_pathBuilt (g := gB i) (h.fr102 fr102) (gv_of (by omega) (by omega) (by omega) (by omega)) hr rfl) (by first | assumption | rfl | decide | omega) (by first | assumption | rfl | decide | omega) (by decide) rfl (by first | decide | omega) (by exact Nat.le_of_ble_eq_true rfl) (fun u95 D95 g95 => ?_)
      have h3 : INV1 D95 S := (h.fr102 fr102).frL g95.1
      have hf3 : Fr inC D D95 := hf.tr ((fr102.mono (fun b hb => by unfold inC; omega)).tr (g95.1.mono (fun b hb => by unfold inL at hb; unfold inC; omega)))
      refine X_istore (i := 6) (nx := 100) dX7_back_98 rfl (by decide) rfl (st_s (st_s (st_s (st_s (st_s (st_s (st_0))))))) ?_
      refine X_iload (nx := 102) dX7_back_100 rfl rfl ?_
      refine X_if_lt (tgt := 123) (nx := 105) dX7_back_102 rfl rfl (fun h102 => ?_) (fun h102 => ?_)
      · skip
        have hz := cn_0 (p := bkP S r) (n := i) (by unfold bkP; rw [pb_no g95.2.1 g95.2.2 h102])
        rw [hz.1]
        refine X_iinc (nx := 126) dX7_back_123 rfl (by decide) rfl (by first | exact ii1 _ | rfl) rfl (st_s (st_s (st_s (st_s (st_s (st_0)))))) ?_
        refine X_goto (tgt := 58) dX7_back_126 rfl ?_
        first
          | exact ih (i + 1) D113 _ (by omega) g113.1 (hf3.tr g113.2.1.sc)
          | exact ih (i + 1) D95 _ (by omega) h3 hf3
      · skip
        obtain ⟨M, e1, e2⟩ := pb_lt g95.2.1 h102
        have hp : pnum M < 341 := g95.2.2 M e1
        subst e2
        refine X_aload_n (nx := 106) dX7_back_105 rfl rfl rfl ?_
        refine M_getP (nx := 109) dX7_back_106 rfl fl_RX7_25 rfl (by first | assumption | rfl | decide | omega) (by first | assumption | rfl | decide | omega) (by first | assumption | rfl | decide | omega) ?_
        refine X_iload (nx := 111) dX7_back_109 rfl rfl ?_
        refine X_iload_n (nx := 112) dX7_back_111 rfl rfl rfl ?_
        refine X_iload_n (nx := 113) dX7_back_112 rfl rfl rfl ?_
        refine Z_Vi3 (nx := 116) dX7_back_113 rfl ml_RX7_180 kj_X6_bring kv_X6_bring (sp_X6_bring h3 rfl hp rfl (by omega) rfl (wS_lt S)) (by first | assumption | rfl | decide | omega) (by first | assumption | rfl | decide | omega) (by decide) rfl (by first | decide | omega) (by exact Nat.le_of_ble_eq_true rfl) (fun u113 D113 g113 => ?_)
        refine X_iload_n (nx := 117) dX7_back_116 rfl rfl rfl ?_
        refine X_icmp_ne (tgt := 123) (nx := 120) dX7_back_117 rfl rfl (fun h117 => ?_) (fun h117 => ?_)
        · skip
          have hz := cn_0 (p := bkP S r) (n := i) (by unfold bkP; rw [e1]; exact decide_eq_false (fun q => h117 ((brg_is g113 (by omega)).mpr q)))
          rw [hz.1]
          refine X_iinc (nx := 126) dX7_back_123 rfl (by decide) rfl (by first | exact ii1 _ | rfl) rfl (st_s (st_s (st_s (st_s (st_s (st_0)))))) ?_
          refine X_goto (tgt := 58) dX7_back_126 rfl ?_
          first
            | exact ih (i + 1) D113 _ (by omega) g113.1 (hf3.tr g113.2.1.sc)
            | exact ih (i + 1) D95 _ (by omega) h3 hf3
        · skip
          have hz := cn_1 (p := bkP S r) (n := i) (by unfold bkP; rw [e1]; exact decide_eq_true ((brg_is g113 (by omega)).mp h117))
          refine X_iinc (nx := 123) dX7_back_120 rfl (by decide) rfl hz.1 rfl (st_s (st_s (st_s (st_s (st_0))))) ?_
          refine X_iinc (nx := 126) dX7_back_123 rfl (by decide) rfl (by first | exact ii1 _ | rfl) rfl (st_s (st_s (st_s (st_s (st_s (st_0)))))) ?_
          refine X_goto (tgt := 58) dX7_back_126 rfl ?_
          first
            | exact ih (i + 1) D113 _ (by omega) g113.1 (hf3.tr g113.2.1.sc)
            | exact ih (i + 1) D95 _ (by omega) h3 hf3
theorem sp_X7_back {x : Int32} {S : St} {D : Mem} (h : INV1 D S) : Rix 21 j_X7_back [.ref 0, .int x] D (fun u D' => CK D (m_back S x) u D') := by
  refine E.start 5 (ls := [some (.ref 0), some (.int x), none, none, none, none, none]) (by decide +kernel) (Nat.le_of_ble_eq_true rfl) rfl (Nat.le_refl _) (Nat.le_refl _) ?_
  have hcm := h.1.2.1.2.1
  refine X_aload_n (nx := 1) dX7_back_0 rfl rfl rfl ?_
  refine M_getP (nx := 4) dX7_back_1 rfl fl_RX7_10 rfl (by first | assumption | rfl | decide | omega) (by first | assumption | rfl | decide | omega) (by first | assumption | rfl | decide | omega) ?_
  refine X_iload_n (nx := 5) dX7_back_4 rfl rfl rfl ?_
  refine Y_Vi1 (nx := 8) dX7_back_5 rfl ml_RX7_103 kj_X0_isThere kv_X0_isThere (sp_X0_isThere (Or.inl rfl) h.1.1) (by first | assumption | rfl | decide | omega) (by first | assumption | rfl | decide | omega) (by decide) rfl (by first | decide | omega) (by exact Nat.le_of_ble_eq_true rfl) ?_
  refine X_if_ne (tgt := 17) (nx := 11) dX7_back_8 rfl rfl (fun h8 => ?_) (fun h8 => ?_)
  · skip
    have c8 := b2i_t.mp h8
    obtain ⟨r, hr, rfl, tr⟩ := isTh_t hcm c8
    have k8 : (nI r).toNatClampNeg = r := nI_clamp (by omega)
    obtain ⟨r1, r2, r3, r4, r5⟩ := h.1.1.2.2.2 r hr
    have hisR := ((isB.facts (Or.inl rfl : isB 1)).2.2.2.2.2.2 r (by omega)).2
    have ha : rt 1 r < 138 := hisR.1
    have hc : (lay (rt 1 r)).1 = 3 := hisR.2
    refine X_aload_n (nx := 18) dX7_back_17 rfl rfl rfl ?_
    refine M_getP (nx := 21) dX7_back_18 rfl fl_RX7_10 rfl (by first | assumption | rfl | decide | omega) (by first | assumption | rfl | decide | omega) (by first | assumption | rfl | decide | omega) ?_
    refine X_iload_n (nx := 22) dX7_back_21 rfl rfl rfl ?_
    refine Y_Vr1 (nx := 25) dX7_back_22 rfl ml_RX7_106 kj_X0_at kv_X0_at (sp_X0_at (Or.inl rfl) (i := r) rfl (by omega)) (by first | assumption | rfl | decide | omega) (by first | assumption | rfl | decide | omega) (by decide) rfl (by first | decide | omega) (by exact Nat.le_of_ble_eq_true rfl) ?_
    refine Y_Vi0 (nx := 28) dX7_back_25 rfl ml_RX7_110 kj_X4_isMount kv_X4_isMount (sp_X4_isMount hisR) (by first | assumption | rfl | decide | omega) (by first | assumption | rfl | decide | omega) (by decide) rfl (by first | decide | omega) (by exact Nat.le_of_ble_eq_true rfl) ?_
    refine X_if_eq (tgt := 38) (nx := 31) dX7_back_28 rfl rfl (fun h28 => ?_) (fun h28 => ?_)
    · skip
      have n28 := nb h28
      rw [r4] at n28
      have m28 : ¬ mtB (bk S) r = true := n28
      obtain ⟨v1, v2⟩ := avN_eq h.1.2.1 hr (Bool.not_eq_true _ ▸ m28)
      refine X_aload_n (nx := 39) dX7_back_38 rfl rfl rfl ?_
      refine M_getP (nx := 42) dX7_back_39 rfl fl_RX7_10 rfl (by first | assumption | rfl | decide | omega) (by first | assumption | rfl | decide | omega) (by first | assumption | rfl | decide | omega) ?_
      refine Y_Vi0 (nx := 45) dX7_back_42 rfl ml_RX7_125 kj_X0_thereBits kv_X0_thereBits (sp_X0_thereBits (Or.inl rfl) h.1.1) (by first | assumption | rfl | decide | omega) (by first | assumption | rfl | decide | omega) (by decide) rfl (by first | decide | omega) (by exact Nat.le_of_ble_eq_true rfl) ?_
      refine X_istore_n (i := 2) (nx := 46) dX7_back_45 rfl rfl (by decide) rfl (st_s (st_s (st_0))) ?_
      refine X_aload_n (nx := 47) dX7_back_46 rfl rfl rfl ?_
      refine X_iload_n (nx := 48) dX7_back_47 rfl rfl rfl ?_
      refine Y_Vi1 (nx := 51) dX7_back_48 rfl ml_RX7_200 kj_X7_askedVerb kv_X7_askedVerb (sp_X7_askedVerb h rfl hr) (by first | assumption | rfl | decide | omega) (by first | assumption | rfl | decide | omega) (by decide) rfl (by first | decide | omega) (by exact Nat.le_of_ble_eq_true rfl) ?_
      refine X_top (v1) ?_
      refine X_istore_n (i := 3) (nx := 52) dX7_back_51 rfl rfl (by decide) rfl (st_s (st_s (st_s (st_0)))) ?_
      refine X_iconst (v := nI 0) (nx := 53) dX7_back_52 rfl rfl ?_
      refine X_istore (i := 4) (nx := 55) dX7_back_53 rfl (by decide) rfl (st_s (st_s (st_s (st_s (st_0))))) ?_
      refine X_iconst (v := nI 0) (nx := 56) dX7_back_55 rfl rfl ?_
      refine X_istore (i := 5) (nx := 58) dX7_back_56 rfl (by decide) rfl (st_s (st_s (st_s (st_s (st_s (st_0)))))) ?_
      (unfold m_back; rw [if_pos c8, k8, if_neg m28]; exact lp_back hr (Bool.not_eq_true _ ▸ m28) 256 0 D none rfl h Fr.rf)
    · skip
      have c28 := b2i_t.mp h28
      rw [r4] at c28
      have m28 : mtB (bk S) r = true := c28
      refine X_aload_n (nx := 32) dX7_back_31 rfl rfl rfl ?_
      refine X_bipush (v := -3) (nx := 34) dX7_back_32 rfl rfl ?_
      refine Y_Vi1 (nx := 37) dX7_back_34 rfl ml_RX7_51 kj_X7_refuse kv_X7_refuse (sp_X7_refuse (k := 3) rfl (by omega) (by omega)) (by first | assumption | rfl | decide | omega) (by first | assumption | rfl | decide | omega) (by decide) rfl (by first | decide | omega) (by exact Nat.le_of_ble_eq_true rfl) ?_
      exact Z_reti dX7_back_37 (Or.inl rfl) (by unfold m_back; rw [if_pos c8, k8, if_pos m28]; exact ck_no (k := 3) h Fr.rf (by omega) (by omega))
  · skip
    have n8 := nb h8
    refine X_aload_n (nx := 12) dX7_back_11 rfl rfl rfl ?_
    refine X_iconst (v := -1) (nx := 13) dX7_back_12 rfl rfl ?_
    refine Y_Vi1 (nx := 16) dX7_back_13 rfl ml_RX7_51 kj_X7_refuse kv_X7_refuse (sp_X7_refuse (k := 1) rfl (by omega) (by omega)) (by first | assumption | rfl | decide | omega) (by first | assumption | rfl | decide | omega) (by decide) rfl (by first | decide | omega) (by exact Nat.le_of_ble_eq_true rfl) ?_
    exact Z_reti dX7_back_16 (Or.inl rfl) (by unfold m_back; rw [if_neg n8]; exact ck_no (k := 1) h Fr.rf (by omega) (by omega))
