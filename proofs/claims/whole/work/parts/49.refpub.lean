/-! THE REFERENCE: its calls -/
theorem inv2_no {D : Mem} {S : St} {T : Nat → Bool} {K F : Nat → Nat} {k : Nat} (h : INVT D S T K F) : INVT (up2 D 105 k (D 105 k + 1)) (no_ S k).2 T K F ∧ Fr inR D (up2 D 105 k (D 105 k + 1)) := by
  obtain ⟨hb, a1, a2, a3, a4, a5, a6, a7⟩ := h
  refine ⟨⟨?_, (up2_other (by omega)).trans a1, (up2_other (by omega)).trans a2, fun i hi => (up2_other (by omega)).trans (a3 i hi), (up2_other (by omega)).trans a4, fun i hi => (up2_other (by omega)).trans (a5 i hi), fun i h1 h2 => ?_, fun q => ?_⟩, Fr.up (by unfold inR; omega)⟩
  · unfold RB at *
    rw [up2_ne (by omega), up2_ne (by omega), up2_ne (by omega), up2_ne (by omega), up2_ne (by omega), up2_ne (by omega), up2_ne (by omega), up2_ne (by omega), up2_other (by omega)]; exact hb
  · show _ = if i = k then rf S k + 1 else rf S i
    by_cases e : i = k
    · subst e; rw [if_pos rfl, up2_same, a6 i h1 h2]
    · rw [if_neg e, up2_other (by omega), a6 i h1 h2]
  · have := a7 q
    unfold KB at *
    rw [up2_ne (by omega)]; exact this
theorem ck2_no {D D1 : Mem} {S : St} {k : Nat} (h : INV2 D1 S) (hf : Fr inR D D1) (h1 : 1 ≤ k) (h2 : k < 7) : CK2 D (no_ S k) (-(nI k)) (up2 D1 105 k (D1 105 k + 1)) :=
  ⟨rfl, (inv2_no h).1, hf.tr (inv2_no h).2⟩
theorem cl2_no {D D1 : Mem} {S : St} {k : Nat} (h : INV2 D1 S) (hf : Fr inR D D1) : CL2 D (noL S k) (4000000000000000000 - (-(nI k)).toInt64) (up2 D1 105 k (D1 105 k + 1)) := ⟨rfl, (inv2_no h).1, hf.tr (inv2_no h).2⟩
theorem ck2_s {D D' : Mem} {S : St} {u v : Int32} (hu : u = v) (h : INV2 D' S) (hf : Fr inR D D') : CK2 D (v, S) u D' := ⟨hu, h, hf⟩
theorem cl2_s {D D' : Mem} {S : St} {u v : Int64} (hu : u = v) (h : INV2 D' S) (hf : Fr inR D D') : CL2 D (v, S) u D' := ⟨hu, h, hf⟩
theorem tle {B : Bk} : TLE B (th_ B) := fun _ _ h => h
theorem br_inv {D D' : Mem} {S : St} {T : Nat → Bool} {K F : Nat → Nat} {v p : Nat} {u : Int32} (h : INVT D S T K F) (hw : WF S) (g : BR2 (bk S) T K F v p D u D') : INVT D' S T K F ∧ Fr inR D D' :=
  ⟨h.fq hw (g.2.1.mono (fun _ _ q => q.scr)), (SCR.fr (g.2.1.mono (fun _ _ q => q.scr)))⟩
theorem scr_inv {D D' : Mem} {S : St} {T : Nat → Bool} {K F : Nat → Nat} (h : INVT D S T K F) (hw : WF S) (g : Fq SCR D D') : INVT D' S T K F ∧ Fr inR D D' := ⟨h.fq hw g, SCR.fr g⟩
theorem mo_f {D D' : Mem} {B : Bk} {T : Nat → Bool} {K F : Nat → Nat} {v p : Nat} {u : Int32} (g : BR2 B T K F v p D u D') (hu : u < 0) : (mtE B (wT B T) v p K F).isSome = false := by rw [br_no g hu]; rfl
theorem mo_t {D D' : Mem} {B : Bk} {T : Nat → Bool} {K F : Nat → Nat} {v p : Nat} {u : Int32} (g : BR2 B T K F v p D u D') (hu : ¬ u < 0) : (mtE B (wT B T) v p K F).isSome = true := by
  obtain ⟨e, he, _⟩ := br_yes g hu
  rw [he]; rfl
theorem av_eq {B : Bk} {r u : Nat} (h : vb_ B r = nI u) (hu : u < 4) : avN B r = if u = 3 then 0 else u := by
  unfold avN avI
  rw [h]
  have : ∀ u, u < 4 → (if nI u = 3 then (0 : Int32) else nI u).toNatClampNeg = if u = 3 then 0 else u := by decide
  exact this u hu
theorem dX8_no_0 : decode cX8_no 0 = .ok (.aload_n 0, 1) := by decide +kernel
theorem dX8_no_1 : decode cX8_no 1 = .ok (.getfield 7, 3) := by decide +kernel
theorem dX8_no_4 : decode cX8_no 4 = .ok (.iload_n 1, 1) := by decide +kernel
theorem dX8_no_5 : decode cX8_no 5 = .ok (.ineg, 1) := by decide +kernel
theorem dX8_no_6 : decode cX8_no 6 = .ok (.dup2, 1) := by decide +kernel
theorem dX8_no_7 : decode cX8_no 7 = .ok (.iaload, 1) := by decide +kernel
theorem dX8_no_8 : decode cX8_no 8 = .ok (.iconst 1, 1) := by decide +kernel
theorem dX8_no_9 : decode cX8_no 9 = .ok (.iadd, 1) := by decide +kernel
theorem dX8_no_10 : decode cX8_no 10 = .ok (.iastore, 1) := by decide +kernel
theorem dX8_no_11 : decode cX8_no 11 = .ok (.iload_n 1, 1) := by decide +kernel
theorem dX8_no_12 : decode cX8_no 12 = .ok (.ireturn, 1) := by decide +kernel
theorem sp_X8_no {k : Nat} {x : Int32} {D : Mem} (hx : x = -(nI k)) (h1 : 1 ≤ k) (h2 : k < 7) : Ei 1 j_X8_no [.ref 104, .int x] D ((-(nI k))) (up2 D 105 k (D 105 k + 1)) := by
  refine E.start 0 (ls := [some (.ref 104), some (.int x)]) (by decide +kernel) (Nat.le_of_ble_eq_true rfl) rfl (Nat.le_refl _) (Nat.le_refl _) ?_
  subst hx
  refine X_aload_n (nx := 1) dX8_no_0 rfl rfl rfl ?_
  refine M_getP (nx := 4) dX8_no_1 rfl fl_RX8_7 rfl (by first | assumption | rfl | decide | omega) (by first | assumption | rfl | decide | omega) (by first | assumption | rfl | decide | omega) ?_
  refine X_iload_n (nx := 5) dX8_no_4 rfl rfl rfl ?_
  refine X_ineg (nx := 6) dX8_no_5 rfl ?_
  refine X_top (neg_neg_nI) ?_
  refine X_dup2 (nx := 7) dX8_no_6 rfl rfl rfl ?_
  refine M_ld (a := 105) (L := 7) (nx := 8) dX8_no_7 rfl (by decide) (by decide) rfl (by decide) (by omega) (rfl) ?_
  refine X_iconst (v := 1) (nx := 9) dX8_no_8 rfl rfl ?_
  refine X_iadd (nx := 10) dX8_no_9 rfl ?_
  refine M_st (a := 105) (L := 7) (nx := 11) dX8_no_10 rfl (by decide) (by decide) rfl (by decide) (by omega) ?_
  refine X_iload_n (nx := 12) dX8_no_11 rfl rfl rfl ?_
  exact Y_reti dX8_no_12 (Or.inl rfl) rfl rfl
theorem dX8_lowestOf_0 : decode cX8_lowestOf 0 = .ok (.aload_n 0, 1) := by decide +kernel
theorem dX8_lowestOf_1 : decode cX8_lowestOf 1 = .ok (.getfield 7, 3) := by decide +kernel
theorem dX8_lowestOf_4 : decode cX8_lowestOf 4 = .ok (.iload_n 1, 1) := by decide +kernel
theorem dX8_lowestOf_5 : decode cX8_lowestOf 5 = .ok (.ineg, 1) := by decide +kernel
theorem dX8_lowestOf_6 : decode cX8_lowestOf 6 = .ok (.dup2, 1) := by decide +kernel
theorem dX8_lowestOf_7 : decode cX8_lowestOf 7 = .ok (.iaload, 1) := by decide +kernel
theorem dX8_lowestOf_8 : decode cX8_lowestOf 8 = .ok (.iconst 1, 1) := by decide +kernel
theorem dX8_lowestOf_9 : decode cX8_lowestOf 9 = .ok (.iadd, 1) := by decide +kernel
theorem dX8_lowestOf_10 : decode cX8_lowestOf 10 = .ok (.iastore, 1) := by decide +kernel
theorem dX8_lowestOf_11 : decode cX8_lowestOf 11 = .ok (.ldc2_w 113, 3) := by decide +kernel
theorem dX8_lowestOf_14 : decode cX8_lowestOf 14 = .ok (.iload_n 1, 1) := by decide +kernel
theorem dX8_lowestOf_15 : decode cX8_lowestOf 15 = .ok (.i2l, 1) := by decide +kernel
theorem dX8_lowestOf_16 : decode cX8_lowestOf 16 = .ok (.lsub, 1) := by decide +kernel
theorem dX8_lowestOf_17 : decode cX8_lowestOf 17 = .ok (.lreturn, 1) := by decide +kernel
theorem sp_X8_lowestOf {k : Nat} {x : Int32} {D : Mem} (hx : x = -(nI k)) (h1 : 1 ≤ k) (h2 : k < 7) : El 1 j_X8_lowestOf [.ref 104, .int x] D ((4000000000000000000 - (-(nI k)).toInt64)) (up2 D 105 k (D 105 k + 1)) := by
  refine E.start 0 (ls := [some (.ref 104), some (.int x)]) (by decide +kernel) (Nat.le_of_ble_eq_true rfl) rfl (Nat.le_refl _) (Nat.le_refl _) ?_
  subst hx
  refine X_aload_n (nx := 1) dX8_lowestOf_0 rfl rfl rfl ?_
  refine M_getP (nx := 4) dX8_lowestOf_1 rfl fl_RX8_7 rfl (by first | assumption | rfl | decide | omega) (by first | assumption | rfl | decide | omega) (by first | assumption | rfl | decide | omega) ?_
  refine X_iload_n (nx := 5) dX8_lowestOf_4 rfl rfl rfl ?_
  refine X_ineg (nx := 6) dX8_lowestOf_5 rfl ?_
  refine X_top (neg_neg_nI) ?_
  refine X_dup2 (nx := 7) dX8_lowestOf_6 rfl rfl rfl ?_
  refine M_ld (a := 105) (L := 7) (nx := 8) dX8_lowestOf_7 rfl (by decide) (by decide) rfl (by decide) (by omega) (rfl) ?_
  refine X_iconst (v := 1) (nx := 9) dX8_lowestOf_8 rfl rfl ?_
  refine X_iadd (nx := 10) dX8_lowestOf_9 rfl ?_
  refine M_st (a := 105) (L := 7) (nx := 11) dX8_lowestOf_10 rfl (by decide) (by decide) rfl (by decide) (by omega) ?_
  refine X_ldc2 (nx := 14) dX8_lowestOf_11 rfl ct_RX8_113 ?_
  refine X_iload_n (nx := 15) dX8_lowestOf_14 rfl rfl rfl ?_
  refine X_i2l (nx := 16) dX8_lowestOf_15 rfl ?_
  refine X_lsub (nx := 17) dX8_lowestOf_16 rfl ?_
  exact Y_retl dX8_lowestOf_17 rfl rfl rfl
theorem dX8_notAsked_0 : decode cX8_notAsked 0 = .ok (.iload_n 1, 1) := by decide +kernel
theorem dX8_notAsked_1 : decode cX8_notAsked 1 = .ok (.invokestatic 308, 3) := by decide +kernel
theorem dX8_notAsked_4 : decode cX8_notAsked 4 = .ok (.ifCond .ne 7, 3) := by decide +kernel
theorem dX8_notAsked_7 : decode cX8_notAsked 7 = .ok (.iconst (-1), 1) := by decide +kernel
theorem dX8_notAsked_8 : decode cX8_notAsked 8 = .ok (.goto 16, 3) := by decide +kernel
theorem dX8_notAsked_11 : decode cX8_notAsked 11 = .ok (.iload_n 2, 1) := by decide +kernel
theorem dX8_notAsked_12 : decode cX8_notAsked 12 = .ok (.invokestatic 243, 3) := by decide +kernel
theorem dX8_notAsked_15 : decode cX8_notAsked 15 = .ok (.ifCond .ne 8, 3) := by decide +kernel
theorem dX8_notAsked_18 : decode cX8_notAsked 18 = .ok (.bipush (-2), 2) := by decide +kernel
theorem dX8_notAsked_20 : decode cX8_notAsked 20 = .ok (.goto 4, 3) := by decide +kernel
theorem dX8_notAsked_23 : decode cX8_notAsked 23 = .ok (.iconst 0, 1) := by decide +kernel
theorem dX8_notAsked_24 : decode cX8_notAsked 24 = .ok (.ireturn, 1) := by decide +kernel
theorem sp_X8_notAsked {x y : Int32} {D : Mem} : Ei 3 j_X8_notAsked [.ref 104, .int x, .int y] D ((if ¬ decide (0 ≤ x ∧ x < 341) = true then -1 else if ¬ decide (0 ≤ y ∧ y < 4) = true then -2 else 0)) (D) := by
  refine E.start 0 (ls := [some (.ref 104), some (.int x), some (.int y)]) (by decide +kernel) (Nat.le_of_ble_eq_true rfl) rfl (Nat.le_refl _) (Nat.le_refl _) ?_
  refine X_iload_n (nx := 1) dX8_notAsked_0 rfl rfl rfl ?_
  refine Y_Si1 (nx := 4) dX8_notAsked_1 rfl ml_RX8_308 kj_X8_isPath ks_X8_isPath (sp_X8_isPath) (by first | decide | omega) (by exact Nat.le_of_ble_eq_true rfl) ?_
  refine X_if_ne (tgt := 11) (nx := 7) dX8_notAsked_4 rfl rfl (fun h4 => ?_) (fun h4 => ?_)
  · skip
    have c4 := b2i_t.mp h4
    refine X_iload_n (nx := 12) dX8_notAsked_11 rfl rfl rfl ?_
    refine Y_Si1 (nx := 15) dX8_notAsked_12 rfl ml_RX8_243 kj_X8_isVerb ks_X8_isVerb (sp_X8_isVerb) (by first | decide | omega) (by exact Nat.le_of_ble_eq_true rfl) ?_
    refine X_if_ne (tgt := 23) (nx := 18) dX8_notAsked_15 rfl rfl (fun h15 => ?_) (fun h15 => ?_)
    · skip
      have c15 := b2i_t.mp h15
      refine X_iconst (v := 0) (nx := 24) dX8_notAsked_23 rfl rfl ?_
      exact Y_reti dX8_notAsked_24 (Or.inl rfl) (by first | rw [if_pos n4] | rw [if_neg (fun q => q c4), if_pos n15] | rw [if_neg (fun q => q c4), if_neg (fun q => q c15)]) rfl
    · skip
      have n15 := nb h15
      refine X_bipush (v := -2) (nx := 20) dX8_notAsked_18 rfl rfl ?_
      refine X_goto (tgt := 24) dX8_notAsked_20 rfl ?_
      exact Y_reti dX8_notAsked_24 (Or.inl rfl) (by first | rw [if_pos n4] | rw [if_neg (fun q => q c4), if_pos n15] | rw [if_neg (fun q => q c4), if_neg (fun q => q c15)]) rfl
  · skip
    have n4 := nb h4
    refine X_iconst (v := -1) (nx := 8) dX8_notAsked_7 rfl rfl ?_
    refine X_goto (tgt := 24) dX8_notAsked_8 rfl ?_
    exact Y_reti dX8_notAsked_24 (Or.inl rfl) (by first | rw [if_pos n4] | rw [if_neg (fun q => q c4), if_pos n15] | rw [if_neg (fun q => q c4), if_neg (fun q => q c15)]) rfl
theorem dX8_askedFor_0 : decode cX8_askedFor 0 = .ok (.aload_n 0, 1) := by decide +kernel
theorem dX8_askedFor_1 : decode cX8_askedFor 1 = .ok (.getfield 25, 3) := by decide +kernel
theorem dX8_askedFor_4 : decode cX8_askedFor 4 = .ok (.iload_n 1, 1) := by decide +kernel
theorem dX8_askedFor_5 : decode cX8_askedFor 5 = .ok (.iaload, 1) := by decide +kernel
theorem dX8_askedFor_6 : decode cX8_askedFor 6 = .ok (.iconst 3, 1) := by decide +kernel
theorem dX8_askedFor_7 : decode cX8_askedFor 7 = .ok (.if_icmp .ne 7, 3) := by decide +kernel
theorem dX8_askedFor_10 : decode cX8_askedFor 10 = .ok (.iconst 0, 1) := by decide +kernel
theorem dX8_askedFor_11 : decode cX8_askedFor 11 = .ok (.goto 9, 3) := by decide +kernel
theorem dX8_askedFor_14 : decode cX8_askedFor 14 = .ok (.aload_n 0, 1) := by decide +kernel
theorem dX8_askedFor_15 : decode cX8_askedFor 15 = .ok (.getfield 25, 3) := by decide +kernel
theorem dX8_askedFor_18 : decode cX8_askedFor 18 = .ok (.iload_n 1, 1) := by decide +kernel
theorem dX8_askedFor_19 : decode cX8_askedFor 19 = .ok (.iaload, 1) := by decide +kernel
theorem dX8_askedFor_20 : decode cX8_askedFor 20 = .ok (.ireturn, 1) := by decide +kernel
theorem sp_X8_askedFor {r : Nat} {x : Int32} {B : Bk} {T : Nat → Bool} {K F : Nat → Nat} {D : Mem} (h : RB D B T K F) (hV : VB B) (hx : x = nI r) (hr : r < cm_ B) (hm : mtB B r = false) : Ei 1 j_X8_askedFor [.ref 104, .int x] D (nI (avN B r)) (D) := by
  refine E.start 0 (ls := [some (.ref 104), some (.int x)]) (by decide +kernel) (Nat.le_of_ble_eq_true rfl) rfl (Nat.le_refl _) (Nat.le_refl _) ?_
  subst hx
  obtain ⟨hB1, hB2, hB3⟩ := id h
  have hcm := hV.2.1
  obtain ⟨hm9, u, hu, hvb⟩ := (hV.2.2 r hr).endv hm
  have hav := av_eq hvb hu
  refine X_aload_n (nx := 1) dX8_askedFor_0 rfl rfl rfl ?_
  refine M_getP (nx := 4) dX8_askedFor_1 rfl fl_RX8_25 rfl (by first | assumption | rfl | decide | omega) (by first | assumption | rfl | decide | omega) (by first | assumption | rfl | decide | omega) ?_
  refine X_iload_n (nx := 5) dX8_askedFor_4 rfl rfl rfl ?_
  refine M_ld (a := 110) (L := 10) (nx := 6) dX8_askedFor_5 rfl (by decide) (by decide) rfl (by decide) (by omega) ((hB3 r hr).2.2.1.trans hvb) ?_
  refine X_iconst (v := nI 3) (nx := 7) dX8_askedFor_6 rfl rfl ?_
  refine X_icmp_ne (tgt := 14) (nx := 10) dX8_askedFor_7 rfl rfl (fun h7 => ?_) (fun h7 => ?_)
  · skip
    rw [nI_eq (by omega) (by omega)] at h7
    refine X_aload_n (nx := 15) dX8_askedFor_14 rfl rfl rfl ?_
    refine M_getP (nx := 18) dX8_askedFor_15 rfl fl_RX8_25 rfl (by first | assumption | rfl | decide | omega) (by first | assumption | rfl | decide | omega) (by first | assumption | rfl | decide | omega) ?_
    refine X_iload_n (nx := 19) dX8_askedFor_18 rfl rfl rfl ?_
    refine M_ld (a := 110) (L := 10) (nx := 20) dX8_askedFor_19 rfl (by decide) (by decide) rfl (by decide) (by omega) ((hB3 r hr).2.2.1.trans hvb) ?_
    exact Y_reti dX8_askedFor_20 (Or.inl rfl) (by rw [hav]; first | (rw [if_pos h7]) | (rw [if_neg h7])) rfl
  · skip
    rw [nI_eq (by omega) (by omega)] at h7
    refine X_iconst (v := nI 0) (nx := 11) dX8_askedFor_10 rfl rfl ?_
    refine X_goto (tgt := 20) dX8_askedFor_11 rfl ?_
    exact Y_reti dX8_askedFor_20 (Or.inl rfl) (by rw [hav]; first | (rw [if_pos h7]) | (rw [if_neg h7])) rfl
theorem ck2_tell {D : Mem} {S : St} {k : Nat} (h : INV2 D S) (hl : (tl S).length < 96) (hk : k < 256) : CK2 D (nI ((tl S).length + 1), (bk S, kp S, im S, tl S ++ [k], rw_ S, rf S)) (nI ((tl S).length + 1)) (up2 (up2 D 125 (tl S).length (nI k)) 104 33 (nI ((tl S).length + 1))) := by
  obtain ⟨hb, a1, a2, a3, a4, a5, a6, a7⟩ := h
  refine ⟨rfl, ⟨?_, ?_, ?_, fun i hi => ?_, ?_, fun i hi => ?_, fun i h1 h2 => ?_, fun q => ?_⟩, (Fr.up (by unfold inR; omega)).tr (Fr.up (by unfold inR; omega))⟩
  · show RB _ (bk S) _ _ _
    unfold RB at *
    rw [up2_ne (by omega), up2_ne (by omega), up2_ne (by omega), up2_ne (by omega), up2_ne (by omega), up2_ne (by omega), up2_ne (by omega), up2_ne (by omega), up2_ne (by omega), up2_ne (by omega), up2_ne (by omega), up2_ne (by omega), up2_ne (by omega), up2_ne (by omega), up2_ne (by omega), up2_ne (by omega), up2_other (by omega), up2_other (by omega)]; exact hb
  · rw [up2_other (by omega), up2_other (by omega)]; exact a1
  · rw [up2_same]; exact congrArg nI (by show (tl S).length + 1 = (tl S ++ [k]).length; simp)
  · rw [up2_ne (by omega)]
    show _ = nI ((tl S ++ [k]).getD i 0)
    have hi' : i < (tl S ++ [k]).length := hi
    rw [List.length_append, List.length_singleton] at hi'
    by_cases e : i = (tl S).length
    · subst e; rw [up2_same, getD_app2]
    · rw [up2_other (by omega), getD_app1 (by omega)]; exact a3 i (by omega)
  · rw [up2_other (by omega), up2_other (by omega)]; exact a4
  · rw [up2_other (by omega), up2_other (by omega)]; exact a5 i hi
  · rw [up2_other (by omega), up2_other (by omega)]; exact a6 i h1 h2
  · have := a7 q
    show KB _ 0 (kp S)
    unfold KB at *
    rw [up2_ne (by omega), up2_ne (by omega)]; exact this
theorem ck2_row {D : Mem} {S : St} {k : Nat} (h : INV2 D S) (hl : (rw_ S).length < 30) (hk : k < 100) : CK2 D (nI ((rw_ S).length + 1), (bk S, kp S, im S, tl S, rw_ S ++ [k], rf S)) (nI ((rw_ S).length + 1)) (up2 (up2 D 137 (rw_ S).length (nI k)) 104 50 (nI ((rw_ S).length + 1))) := by
  obtain ⟨hb, a1, a2, a3, a4, a5, a6, a7⟩ := h
  refine ⟨rfl, ⟨?_, ?_, ?_, fun i hi => ?_, ?_, fun i hi => ?_, fun i h1 h2 => ?_, fun q => ?_⟩, (Fr.up (by unfold inR; omega)).tr (Fr.up (by unfold inR; omega))⟩
  · show RB _ (bk S) _ _ _
    unfold RB at *
    rw [up2_ne (by omega), up2_ne (by omega), up2_ne (by omega), up2_ne (by omega), up2_ne (by omega), up2_ne (by omega), up2_ne (by omega), up2_ne (by omega), up2_ne (by omega), up2_ne (by omega), up2_ne (by omega), up2_ne (by omega), up2_ne (by omega), up2_ne (by omega), up2_ne (by omega), up2_ne (by omega), up2_other (by omega), up2_other (by omega)]; exact hb
  · rw [up2_other (by omega), up2_other (by omega)]; exact a1
  · rw [up2_other (by omega), up2_other (by omega)]; exact a2
  · rw [up2_other (by omega), up2_other (by omega)]; exact a3 i hi
  · rw [up2_same]; exact congrArg nI (by show (rw_ S).length + 1 = (rw_ S ++ [k]).length; simp)
  · rw [up2_ne (by omega)]
    show _ = nI ((rw_ S ++ [k]).getD i 0)
    have hi' : i < (rw_ S ++ [k]).length := hi
    rw [List.length_append, List.length_singleton] at hi'
    by_cases e : i = (rw_ S).length
    · subst e; rw [up2_same, getD_app2]
    · rw [up2_other (by omega), getD_app1 (by omega)]; exact a5 i (by omega)
  · rw [up2_other (by omega), up2_other (by omega)]; exact a6 i h1 h2
  · have := a7 q
    show KB _ 0 (kp S)
    unfold KB at *
    rw [up2_ne (by omega), up2_ne (by omega)]; exact this
theorem inv2_row0 {D : Mem} {S : St} (h : INV2 D S) : INV2 (up2 D 104 50 0) (bk S, kp S, im S, tl S, [], rf S) ∧ Fr inR D (up2 D 104 50 0) := by
  obtain ⟨hb, a1, a2, a3, a4, a5, a6, a7⟩ := h
  refine ⟨⟨?_, ?_, ?_, fun i hi => ?_, ?_, fun i hi => ?_, fun i h1 h2 => ?_, fun q => ?_⟩, (Fr.up (by unfold inR; omega))⟩
  · show RB _ (bk S) _ _ _
    unfold RB at *
    rw [up2_ne (by omega), up2_ne (by omega), up2_ne (by omega), up2_ne (by omega), up2_ne (by omega), up2_ne (by omega), up2_ne (by omega), up2_ne (by omega), up2_other (by omega)]; exact hb
  · rw [up2_other (by omega)]; exact a1
  · rw [up2_other (by omega)]; exact a2
  · rw [up2_other (by omega)]; exact a3 i hi
  · exact up2_same
  · exact absurd hi (Nat.not_lt_zero _)
  · rw [up2_other (by omega)]; exact a6 i h1 h2
  · have := a7 q
    show KB _ 0 (kp S)
    unfold KB at *
    rw [up2_ne (by omega)]; exact this
theorem dX8_letter_0 : decode cX8_letter 0 = .ok (.iload_n 1, 1) := by decide +kernel
theorem dX8_letter_1 : decode cX8_letter 1 = .ok (.iconst 0, 1) := by decide +kernel
theorem dX8_letter_2 : decode cX8_letter 2 = .ok (.sipush 255, 3) := by decide +kernel
theorem dX8_letter_5 : decode cX8_letter 5 = .ok (.invokestatic 205, 3) := by decide +kernel
theorem dX8_letter_8 : decode cX8_letter 8 = .ok (.istore_n 2, 1) := by decide +kernel
theorem dX8_letter_9 : decode cX8_letter 9 = .ok (.iload_n 2, 1) := by decide +kernel
theorem dX8_letter_10 : decode cX8_letter 10 = .ok (.ifCond .ne 15, 3) := by decide +kernel
theorem dX8_letter_13 : decode cX8_letter 13 = .ok (.aload_n 0, 1) := by decide +kernel
theorem dX8_letter_14 : decode cX8_letter 14 = .ok (.getfield 208, 3) := by decide +kernel
theorem dX8_letter_17 : decode cX8_letter 17 = .ok (.bipush 96, 2) := by decide +kernel
theorem dX8_letter_19 : decode cX8_letter 19 = .ok (.if_icmp .ne 6, 3) := by decide +kernel
theorem dX8_letter_22 : decode cX8_letter 22 = .ok (.bipush (-6), 2) := by decide +kernel
theorem dX8_letter_24 : decode cX8_letter 24 = .ok (.istore_n 2, 1) := by decide +kernel
theorem dX8_letter_25 : decode cX8_letter 25 = .ok (.iload_n 2, 1) := by decide +kernel
theorem dX8_letter_26 : decode cX8_letter 26 = .ok (.ifCond .eq 9, 3) := by decide +kernel
theorem dX8_letter_29 : decode cX8_letter 29 = .ok (.aload_n 0, 1) := by decide +kernel
theorem dX8_letter_30 : decode cX8_letter 30 = .ok (.iload_n 2, 1) := by decide +kernel
theorem dX8_letter_31 : decode cX8_letter 31 = .ok (.invokevirtual 211, 3) := by decide +kernel
theorem dX8_letter_34 : decode cX8_letter 34 = .ok (.ireturn, 1) := by decide +kernel
theorem dX8_letter_35 : decode cX8_letter 35 = .ok (.aload_n 0, 1) := by decide +kernel
theorem dX8_letter_36 : decode cX8_letter 36 = .ok (.getfield 70, 3) := by decide +kernel
theorem dX8_letter_39 : decode cX8_letter 39 = .ok (.aload_n 0, 1) := by decide +kernel
theorem dX8_letter_40 : decode cX8_letter 40 = .ok (.getfield 208, 3) := by decide +kernel
theorem dX8_letter_43 : decode cX8_letter 43 = .ok (.iload_n 1, 1) := by decide +kernel
theorem dX8_letter_44 : decode cX8_letter 44 = .ok (.iastore, 1) := by decide +kernel
theorem dX8_letter_45 : decode cX8_letter 45 = .ok (.aload_n 0, 1) := by decide +kernel
theorem dX8_letter_46 : decode cX8_letter 46 = .ok (.dup, 1) := by decide +kernel
theorem dX8_letter_47 : decode cX8_letter 47 = .ok (.getfield 208, 3) := by decide +kernel
theorem dX8_letter_50 : decode cX8_letter 50 = .ok (.iconst 1, 1) := by decide +kernel
theorem dX8_letter_51 : decode cX8_letter 51 = .ok (.iadd, 1) := by decide +kernel
theorem dX8_letter_52 : decode cX8_letter 52 = .ok (.putfield 208, 3) := by decide +kernel
theorem dX8_letter_55 : decode cX8_letter 55 = .ok (.aload_n 0, 1) := by decide +kernel
theorem dX8_letter_56 : decode cX8_letter 56 = .ok (.getfield 208, 3) := by decide +kernel
theorem dX8_letter_59 : decode cX8_letter 59 = .ok (.ireturn, 1) := by decide +kernel
theorem sp_X8_letter {x : Int32} {S : St} {D : Mem} (h : INV2 D S) (hw : WF S) : Rix 2 j_X8_letter [.ref 104, .int x] D (fun u D' => CK2 D (m_letter S x) u D') := by
  refine E.start 1 (ls := [some (.ref 104), some (.int x), none]) (by decide +kernel) (Nat.le_of_ble_eq_true rfl) rfl (Nat.le_refl _) (Nat.le_refl _) ?_
  have hcm := hw.1.2.1
  have hB2 := h.1.2.1
  have hl := hw.2.2.2.1
  refine X_iload_n (nx := 1) dX8_letter_0 rfl rfl rfl ?_
  refine X_iconst (v := 0) (nx := 2) dX8_letter_1 rfl rfl ?_
  refine X_sipush (v := 255) (nx := 5) dX8_letter_2 rfl rfl ?_
  refine Y_Si3 (nx := 8) dX8_letter_5 rfl ml_RX8_205 kj_X8_beyond ks_X8_beyond (sp_X8_beyond) (by first | decide | omega) (by exact Nat.le_of_ble_eq_true rfl) ?_
  by_cases q1 : x < 0
  · rw [if_pos q1]
    refine X_istore_n (i := 2) (nx := 9) dX8_letter_8 rfl rfl (by decide) rfl (st_s (st_s (st_0))) ?_
    refine X_iload_n (nx := 10) dX8_letter_9 rfl rfl rfl ?_
    refine X_if_ne (tgt := 25) (nx := 13) dX8_letter_10 rfl rfl (fun h10 => ?_) (fun h10 => ?_)
    · skip
      refine X_iload_n (nx := 26) dX8_letter_25 rfl rfl rfl ?_
      refine X_if_eq (tgt := 35) (nx := 29) dX8_letter_26 rfl rfl (fun h26 => ?_) (fun h26 => ?_)
      · exact absurd h26 (by decide)
      · skip
        refine X_aload_n (nx := 30) dX8_letter_29 rfl rfl rfl ?_
        refine X_iload_n (nx := 31) dX8_letter_30 rfl rfl rfl ?_
        refine Y_Vi1 (nx := 34) dX8_letter_31 rfl ml_RX8_211 kj_X8_no kv_X8_no (by first | exact sp_X8_no (k := 4) rfl (by omega) (by omega) | exact sp_X8_no (k := 6) rfl (by omega) (by omega)) (by first | assumption | rfl | decide | omega) (by first | assumption | rfl | decide | omega) (by decide) rfl (by first | decide | omega) (by exact Nat.le_of_ble_eq_true rfl) ?_
        exact Z_reti dX8_letter_34 (Or.inl rfl) (by
          unfold m_letter
          first
          | (rw [if_pos q1]; exact ck2_no (k := 4) h Fr.rf (by omega) (by omega))
          | (rw [if_neg q1, if_pos (Or.inl q2)]; exact ck2_no (k := 6) h Fr.rf (by omega) (by omega))
          | (rw [if_neg q1, if_pos (Or.inr (by omega))]; exact ck2_no (k := 6) h Fr.rf (by omega) (by omega)))
    · exact absurd h10 (by decide)
  · rw [if_neg q1]
    by_cases q2 : 255 < x
    · rw [if_pos q2]
      refine X_istore_n (i := 2) (nx := 9) dX8_letter_8 rfl rfl (by decide) rfl (st_s (st_s (st_0))) ?_
      refine X_iload_n (nx := 10) dX8_letter_9 rfl rfl rfl ?_
      refine X_if_ne (tgt := 25) (nx := 13) dX8_letter_10 rfl rfl (fun h10 => ?_) (fun h10 => ?_)
      · skip
        refine X_iload_n (nx := 26) dX8_letter_25 rfl rfl rfl ?_
        refine X_if_eq (tgt := 35) (nx := 29) dX8_letter_26 rfl rfl (fun h26 => ?_) (fun h26 => ?_)
        · exact absurd h26 (by decide)
        · skip
          refine X_aload_n (nx := 30) dX8_letter_29 rfl rfl rfl ?_
          refine X_iload_n (nx := 31) dX8_letter_30 rfl rfl rfl ?_
          refine Y_Vi1 (nx := 34) dX8_letter_31 rfl ml_RX8_211 kj_X8_no kv_X8_no (by first | exact sp_X8_no (k := 4) rfl (by omega) (by omega) | exact sp_X8_no (k := 6) rfl (by omega) (by omega)) (by first | assumption | rfl | decide | omega) (by first | assumption | rfl | decide | omega) (by decide) rfl (by first | decide | omega) (by exact Nat.le_of_ble_eq_true rfl) ?_
          exact Z_reti dX8_letter_34 (Or.inl rfl) (by
            unfold m_letter
            first
            | (rw [if_pos q1]; exact ck2_no (k := 4) h Fr.rf (by omega) (by omega))
            | (rw [if_neg q1, if_pos (Or.inl q2)]; exact ck2_no (k := 6) h Fr.rf (by omega) (by omega))
            | (rw [if_neg q1, if_pos (Or.inr (by omega))]; exact ck2_no (k := 6) h Fr.rf (by omega) (by omega)))
      · exact absurd h10 (by decide)
    · rw [if_neg q2]
      refine X_istore_n (i := 2) (nx := 9) dX8_letter_8 rfl rfl (by decide) rfl (st_s (st_s (st_0))) ?_
      refine X_iload_n (nx := 10) dX8_letter_9 rfl rfl rfl ?_
      refine X_if_ne (tgt := 25) (nx := 13) dX8_letter_10 rfl rfl (fun h10 => ?_) (fun h10 => ?_)
      · exact absurd h10 (by decide)
      · skip
        refine X_aload_n (nx := 14) dX8_letter_13 rfl rfl rfl ?_
        refine M_getI (nx := 17) dX8_letter_14 rfl fl_RX8_208 rfl (by first | assumption | rfl | decide | omega) (by first | assumption | rfl | decide | omega) ?_
        refine X_top (h.2.2.1) ?_
        refine X_bipush (v := nI 96) (nx := 19) dX8_letter_17 rfl rfl ?_
        refine X_icmp_ne (tgt := 25) (nx := 22) dX8_letter_19 rfl rfl (fun h19 => ?_) (fun h19 => ?_)
        · skip
          rw [nI_eq (by omega) (by omega)] at h19
          obtain ⟨k, hk, rfl⟩ := ex_nI (x := x) (N := 256) (n := 256) rfl (by decide) ⟨Int32.not_lt.mp q1, Int32.lt_of_le_of_lt (Int32.not_lt.mp q2) (by decide)⟩
          have kk : (nI k).toNatClampNeg = k := nI_clamp (by omega)
          refine X_iload_n (nx := 26) dX8_letter_25 rfl rfl rfl ?_
          refine X_if_eq (tgt := 35) (nx := 29) dX8_letter_26 rfl rfl (fun h26 => ?_) (fun h26 => ?_)
          · skip
            refine X_aload_n (nx := 36) dX8_letter_35 rfl rfl rfl ?_
            refine M_getP (nx := 39) dX8_letter_36 rfl fl_RX8_70 rfl (by first | assumption | rfl | decide | omega) (by first | assumption | rfl | decide | omega) (by first | assumption | rfl | decide | omega) ?_
            refine X_aload_n (nx := 40) dX8_letter_39 rfl rfl rfl ?_
            refine M_getI (nx := 43) dX8_letter_40 rfl fl_RX8_208 rfl (by first | assumption | rfl | decide | omega) (by first | assumption | rfl | decide | omega) ?_
            refine X_top (h.2.2.1) ?_
            refine X_iload_n (nx := 44) dX8_letter_43 rfl rfl rfl ?_
            refine M_st (a := 125) (L := 96) (nx := 45) dX8_letter_44 rfl (by decide) (by decide) rfl (by decide) (by omega) ?_
            refine X_aload_n (nx := 46) dX8_letter_45 rfl rfl rfl ?_
            refine X_dup (nx := 47) dX8_letter_46 rfl rfl ?_
            refine M_getI (nx := 50) dX8_letter_47 rfl fl_RX8_208 rfl (by first | assumption | rfl | decide | omega) (by first | assumption | rfl | decide | omega) ?_
            refine X_top ((up2_other (by omega)).trans h.2.2.1) ?_
            refine X_iconst (v := 1) (nx := 51) dX8_letter_50 rfl rfl ?_
            refine X_iadd (nx := 52) dX8_letter_51 rfl ?_
            refine X_top (nI_1 _) ?_
            refine M_putI (nx := 55) dX8_letter_52 rfl fl_RX8_208 rfl rfl (by first | assumption | rfl | decide | omega) (by first | assumption | rfl | decide | omega) ?_
            refine X_aload_n (nx := 56) dX8_letter_55 rfl rfl rfl ?_
            refine M_getI (nx := 59) dX8_letter_56 rfl fl_RX8_208 rfl (by first | assumption | rfl | decide | omega) (by first | assumption | rfl | decide | omega) ?_
            refine X_top (up2_same) ?_
            exact Z_reti dX8_letter_59 (Or.inl rfl) (by unfold m_letter; rw [if_neg q1, if_neg (fun q => q.elim q2 (fun q => by omega)), kk]; exact ck2_tell h (by omega) hk)
          · exact absurd h26 (by decide)
        · skip
          rw [nI_eq (by omega) (by omega)] at h19
          refine X_bipush (v := -6) (nx := 24) dX8_letter_22 rfl rfl ?_
          refine X_istore_n (i := 2) (nx := 25) dX8_letter_24 rfl rfl (by decide) rfl (st_s (st_s (st_0))) ?_
          refine X_iload_n (nx := 26) dX8_letter_25 rfl rfl rfl ?_
          refine X_if_eq (tgt := 35) (nx := 29) dX8_letter_26 rfl rfl (fun h26 => ?_) (fun h26 => ?_)
          · exact absurd h26 (by decide)
          · skip
            refine X_aload_n (nx := 30) dX8_letter_29 rfl rfl rfl ?_
            refine X_iload_n (nx := 31) dX8_letter_30 rfl rfl rfl ?_
            refine Y_Vi1 (nx := 34) dX8_letter_31 rfl ml_RX8_211 kj_X8_no kv_X8_no (by first | exact sp_X8_no (k := 4) rfl (by omega) (by omega) | exact sp_X8_no (k := 6) rfl (by omega) (by omega)) (by first | assumption | rfl | decide | omega) (by first | assumption | rfl | decide | omega) (by decide) rfl (by first | decide | omega) (by exact Nat.le_of_ble_eq_true rfl) ?_
            exact Z_reti dX8_letter_34 (Or.inl rfl) (by
              unfold m_letter
              first
              | (rw [if_pos q1]; exact ck2_no (k := 4) h Fr.rf (by omega) (by omega))
              | (rw [if_neg q1, if_pos (Or.inl q2)]; exact ck2_no (k := 6) h Fr.rf (by omega) (by omega))
              | (rw [if_neg q1, if_pos (Or.inr (by omega))]; exact ck2_no (k := 6) h Fr.rf (by omega) (by omega)))
theorem dX8_row_0 : decode cX8_row 0 = .ok (.iload_n 1, 1) := by decide +kernel
theorem dX8_row_1 : decode cX8_row 1 = .ok (.iconst 0, 1) := by decide +kernel
theorem dX8_row_2 : decode cX8_row 2 = .ok (.bipush 99, 2) := by decide +kernel
theorem dX8_row_4 : decode cX8_row 4 = .ok (.invokestatic 205, 3) := by decide +kernel
theorem dX8_row_7 : decode cX8_row 7 = .ok (.istore_n 2, 1) := by decide +kernel
theorem dX8_row_8 : decode cX8_row 8 = .ok (.iload_n 2, 1) := by decide +kernel
theorem dX8_row_9 : decode cX8_row 9 = .ok (.ifCond .ne 15, 3) := by decide +kernel
theorem dX8_row_12 : decode cX8_row 12 = .ok (.aload_n 0, 1) := by decide +kernel
theorem dX8_row_13 : decode cX8_row 13 = .ok (.getfield 377, 3) := by decide +kernel
theorem dX8_row_16 : decode cX8_row 16 = .ok (.bipush 30, 2) := by decide +kernel
theorem dX8_row_18 : decode cX8_row 18 = .ok (.if_icmp .ne 6, 3) := by decide +kernel
theorem dX8_row_21 : decode cX8_row 21 = .ok (.bipush (-6), 2) := by decide +kernel
theorem dX8_row_23 : decode cX8_row 23 = .ok (.istore_n 2, 1) := by decide +kernel
theorem dX8_row_24 : decode cX8_row 24 = .ok (.iload_n 2, 1) := by decide +kernel
theorem dX8_row_25 : decode cX8_row 25 = .ok (.ifCond .eq 9, 3) := by decide +kernel
theorem dX8_row_28 : decode cX8_row 28 = .ok (.aload_n 0, 1) := by decide +kernel
theorem dX8_row_29 : decode cX8_row 29 = .ok (.iload_n 2, 1) := by decide +kernel
theorem dX8_row_30 : decode cX8_row 30 = .ok (.invokevirtual 211, 3) := by decide +kernel
theorem dX8_row_33 : decode cX8_row 33 = .ok (.ireturn, 1) := by decide +kernel
theorem dX8_row_34 : decode cX8_row 34 = .ok (.aload_n 0, 1) := by decide +kernel
theorem dX8_row_35 : decode cX8_row 35 = .ok (.getfield 106, 3) := by decide +kernel
theorem dX8_row_38 : decode cX8_row 38 = .ok (.aload_n 0, 1) := by decide +kernel
theorem dX8_row_39 : decode cX8_row 39 = .ok (.getfield 377, 3) := by decide +kernel
theorem dX8_row_42 : decode cX8_row 42 = .ok (.iload_n 1, 1) := by decide +kernel
theorem dX8_row_43 : decode cX8_row 43 = .ok (.iastore, 1) := by decide +kernel
theorem dX8_row_44 : decode cX8_row 44 = .ok (.aload_n 0, 1) := by decide +kernel
theorem dX8_row_45 : decode cX8_row 45 = .ok (.dup, 1) := by decide +kernel
theorem dX8_row_46 : decode cX8_row 46 = .ok (.getfield 377, 3) := by decide +kernel
theorem dX8_row_49 : decode cX8_row 49 = .ok (.iconst 1, 1) := by decide +kernel
theorem dX8_row_50 : decode cX8_row 50 = .ok (.iadd, 1) := by decide +kernel
theorem dX8_row_51 : decode cX8_row 51 = .ok (.putfield 377, 3) := by decide +kernel
theorem dX8_row_54 : decode cX8_row 54 = .ok (.aload_n 0, 1) := by decide +kernel
theorem dX8_row_55 : decode cX8_row 55 = .ok (.getfield 377, 3) := by decide +kernel
theorem dX8_row_58 : decode cX8_row 58 = .ok (.ireturn, 1) := by decide +kernel
theorem sp_X8_row {x : Int32} {S : St} {D : Mem} (h : INV2 D S) (hw : WF S) : Rix 2 j_X8_row [.ref 104, .int x] D (fun u D' => CK2 D (m_row S x) u D') := by
  refine E.start 1 (ls := [some (.ref 104), some (.int x), none]) (by decide +kernel) (Nat.le_of_ble_eq_true rfl) rfl (Nat.le_refl _) (Nat.le_refl _) ?_
  have hcm := hw.1.2.1
  have hB2 := h.1.2.1
  have hl := hw.2.2.2.2.1
  refine X_iload_n (nx := 1) dX8_row_0 rfl rfl rfl ?_
  refine X_iconst (v := 0) (nx := 2) dX8_row_1 rfl rfl ?_
  refine X_bipush (v := 99) (nx := 4) dX8_row_2 rfl rfl ?_
  refine Y_Si3 (nx := 7) dX8_row_4 rfl ml_RX8_205 kj_X8_beyond ks_X8_beyond (sp_X8_beyond) (by first | decide | omega) (by exact Nat.le_of_ble_eq_true rfl) ?_
  by_cases q1 : x < 0
  · rw [if_pos q1]
    refine X_istore_n (i := 2) (nx := 8) dX8_row_7 rfl rfl (by decide) rfl (st_s (st_s (st_0))) ?_
    refine X_iload_n (nx := 9) dX8_row_8 rfl rfl rfl ?_
    refine X_if_ne (tgt := 24) (nx := 12) dX8_row_9 rfl rfl (fun h9 => ?_) (fun h9 => ?_)
    · skip
      refine X_iload_n (nx := 25) dX8_row_24 rfl rfl rfl ?_
      refine X_if_eq (tgt := 34) (nx := 28) dX8_row_25 rfl rfl (fun h25 => ?_) (fun h25 => ?_)
      · exact absurd h25 (by decide)
      · skip
        refine X_aload_n (nx := 29) dX8_row_28 rfl rfl rfl ?_
        refine X_iload_n (nx := 30) dX8_row_29 rfl rfl rfl ?_
        refine Y_Vi1 (nx := 33) dX8_row_30 rfl ml_RX8_211 kj_X8_no kv_X8_no (by first | exact sp_X8_no (k := 4) rfl (by omega) (by omega) | exact sp_X8_no (k := 6) rfl (by omega) (by omega)) (by first | assumption | rfl | decide | omega) (by first | assumption | rfl | decide | omega) (by decide) rfl (by first | decide | omega) (by exact Nat.le_of_ble_eq_true rfl) ?_
        exact Z_reti dX8_row_33 (Or.inl rfl) (by
          unfold m_row
          first
          | (rw [if_pos q1]; exact ck2_no (k := 4) h Fr.rf (by omega) (by omega))
          | (rw [if_neg q1, if_pos (Or.inl q2)]; exact ck2_no (k := 6) h Fr.rf (by omega) (by omega))
          | (rw [if_neg q1, if_pos (Or.inr (by omega))]; exact ck2_no (k := 6) h Fr.rf (by omega) (by omega)))
    · exact absurd h9 (by decide)
  · rw [if_neg q1]
    by_cases q2 : 99 < x
    · rw [if_pos q2]
      refine X_istore_n (i := 2) (nx := 8) dX8_row_7 rfl rfl (by decide) rfl (st_s (st_s (st_0))) ?_
      refine X_iload_n (nx := 9) dX8_row_8 rfl rfl rfl ?_
      refine X_if_ne (tgt := 24) (nx := 12) dX8_row_9 rfl rfl (fun h9 => ?_) (fun h9 => ?_)
      · skip
        refine X_iload_n (nx := 25) dX8_row_24 rfl rfl rfl ?_
        refine X_if_eq (tgt := 34) (nx := 28) dX8_row_25 rfl rfl (fun h25 => ?_) (fun h25 => ?_)
        · exact absurd h25 (by decide)
        · skip
          refine X_aload_n (nx := 29) dX8_row_28 rfl rfl rfl ?_
          refine X_iload_n (nx := 30) dX8_row_29 rfl rfl rfl ?_
          refine Y_Vi1 (nx := 33) dX8_row_30 rfl ml_RX8_211 kj_X8_no kv_X8_no (by first | exact sp_X8_no (k := 4) rfl (by omega) (by omega) | exact sp_X8_no (k := 6) rfl (by omega) (by omega)) (by first | assumption | rfl | decide | omega) (by first | assumption | rfl | decide | omega) (by decide) rfl (by first | decide | omega) (by exact Nat.le_of_ble_eq_true rfl) ?_
          exact Z_reti dX8_row_33 (Or.inl rfl) (by
            unfold m_row
            first
            | (rw [if_pos q1]; exact ck2_no (k := 4) h Fr.rf (by omega) (by omega))
            | (rw [if_neg q1, if_pos (Or.inl q2)]; exact ck2_no (k := 6) h Fr.rf (by omega) (by omega))
            | (rw [if_neg q1, if_pos (Or.inr (by omega))]; exact ck2_no (k := 6) h Fr.rf (by omega) (by omega)))
      · exact absurd h9 (by decide)
    · rw [if_neg q2]
      refine X_istore_n (i := 2) (nx := 8) dX8_row_7 rfl rfl (by decide) rfl (st_s (st_s (st_0))) ?_
      refine X_iload_n (nx := 9) dX8_row_8 rfl rfl rfl ?_
      refine X_if_ne (tgt := 24) (nx := 12) dX8_row_9 rfl rfl (fun h9 => ?_) (fun h9 => ?_)
      · exact absurd h9 (by decide)
      · skip
        refine X_aload_n (nx := 13) dX8_row_12 rfl rfl rfl ?_
        refine M_getI (nx := 16) dX8_row_13 rfl fl_RX8_377 rfl (by first | assumption | rfl | decide | omega) (by first | assumption | rfl | decide | omega) ?_
        refine X_top (h.2.2.2.2.1) ?_
        refine X_bipush (v := nI 30) (nx := 18) dX8_row_16 rfl rfl ?_
        refine X_icmp_ne (tgt := 24) (nx := 21) dX8_row_18 rfl rfl (fun h18 => ?_) (fun h18 => ?_)
        · skip
          rw [nI_eq (by omega) (by omega)] at h18
          obtain ⟨k, hk, rfl⟩ := ex_nI (x := x) (N := 100) (n := 100) rfl (by decide) ⟨Int32.not_lt.mp q1, Int32.lt_of_le_of_lt (Int32.not_lt.mp q2) (by decide)⟩
          have kk : (nI k).toNatClampNeg = k := nI_clamp (by omega)
          refine X_iload_n (nx := 25) dX8_row_24 rfl rfl rfl ?_
          refine X_if_eq (tgt := 34) (nx := 28) dX8_row_25 rfl rfl (fun h25 => ?_) (fun h25 => ?_)
          · skip
            refine X_aload_n (nx := 35) dX8_row_34 rfl rfl rfl ?_
            refine M_getP (nx := 38) dX8_row_35 rfl fl_RX8_106 rfl (by first | assumption | rfl | decide | omega) (by first | assumption | rfl | decide | omega) (by first | assumption | rfl | decide | omega) ?_
            refine X_aload_n (nx := 39) dX8_row_38 rfl rfl rfl ?_
            refine M_getI (nx := 42) dX8_row_39 rfl fl_RX8_377 rfl (by first | assumption | rfl | decide | omega) (by first | assumption | rfl | decide | omega) ?_
            refine X_top (h.2.2.2.2.1) ?_
            refine X_iload_n (nx := 43) dX8_row_42 rfl rfl rfl ?_
            refine M_st (a := 137) (L := 30) (nx := 44) dX8_row_43 rfl (by decide) (by decide) rfl (by decide) (by omega) ?_
            refine X_aload_n (nx := 45) dX8_row_44 rfl rfl rfl ?_
            refine X_dup (nx := 46) dX8_row_45 rfl rfl ?_
            refine M_getI (nx := 49) dX8_row_46 rfl fl_RX8_377 rfl (by first | assumption | rfl | decide | omega) (by first | assumption | rfl | decide | omega) ?_
            refine X_top ((up2_other (by omega)).trans h.2.2.2.2.1) ?_
            refine X_iconst (v := 1) (nx := 50) dX8_row_49 rfl rfl ?_
            refine X_iadd (nx := 51) dX8_row_50 rfl ?_
            refine X_top (nI_1 _) ?_
            refine M_putI (nx := 54) dX8_row_51 rfl fl_RX8_377 rfl rfl (by first | assumption | rfl | decide | omega) (by first | assumption | rfl | decide | omega) ?_
            refine X_aload_n (nx := 55) dX8_row_54 rfl rfl rfl ?_
            refine M_getI (nx := 58) dX8_row_55 rfl fl_RX8_377 rfl (by first | assumption | rfl | decide | omega) (by first | assumption | rfl | decide | omega) ?_
            refine X_top (up2_same) ?_
            exact Z_reti dX8_row_58 (Or.inl rfl) (by unfold m_row; rw [if_neg q1, if_neg (fun q => q.elim q2 (fun q => by omega)), kk]; exact ck2_row h (by omega) hk)
          · exact absurd h25 (by decide)
        · skip
          rw [nI_eq (by omega) (by omega)] at h18
          refine X_bipush (v := -6) (nx := 23) dX8_row_21 rfl rfl ?_
          refine X_istore_n (i := 2) (nx := 24) dX8_row_23 rfl rfl (by decide) rfl (st_s (st_s (st_0))) ?_
          refine X_iload_n (nx := 25) dX8_row_24 rfl rfl rfl ?_
          refine X_if_eq (tgt := 34) (nx := 28) dX8_row_25 rfl rfl (fun h25 => ?_) (fun h25 => ?_)
          · exact absurd h25 (by decide)
          · skip
            refine X_aload_n (nx := 29) dX8_row_28 rfl rfl rfl ?_
            refine X_iload_n (nx := 30) dX8_row_29 rfl rfl rfl ?_
            refine Y_Vi1 (nx := 33) dX8_row_30 rfl ml_RX8_211 kj_X8_no kv_X8_no (by first | exact sp_X8_no (k := 4) rfl (by omega) (by omega) | exact sp_X8_no (k := 6) rfl (by omega) (by omega)) (by first | assumption | rfl | decide | omega) (by first | assumption | rfl | decide | omega) (by decide) rfl (by first | decide | omega) (by exact Nat.le_of_ble_eq_true rfl) ?_
            exact Z_reti dX8_row_33 (Or.inl rfl) (by
              unfold m_row
              first
              | (rw [if_pos q1]; exact ck2_no (k := 4) h Fr.rf (by omega) (by omega))
              | (rw [if_neg q1, if_pos (Or.inl q2)]; exact ck2_no (k := 6) h Fr.rf (by omega) (by omega))
              | (rw [if_neg q1, if_pos (Or.inr (by omega))]; exact ck2_no (k := 6) h Fr.rf (by omega) (by omega)))
theorem dX8_clear_0 : decode cX8_clear 0 = .ok (.aload_n 0, 1) := by decide +kernel
theorem dX8_clear_1 : decode cX8_clear 1 = .ok (.getfield 377, 3) := by decide +kernel
theorem dX8_clear_4 : decode cX8_clear 4 = .ok (.istore_n 1, 1) := by decide +kernel
theorem dX8_clear_5 : decode cX8_clear 5 = .ok (.aload_n 0, 1) := by decide +kernel
theorem dX8_clear_6 : decode cX8_clear 6 = .ok (.iconst 0, 1) := by decide +kernel
theorem dX8_clear_7 : decode cX8_clear 7 = .ok (.putfield 377, 3) := by decide +kernel
theorem dX8_clear_10 : decode cX8_clear 10 = .ok (.iload_n 1, 1) := by decide +kernel
theorem dX8_clear_11 : decode cX8_clear 11 = .ok (.ireturn, 1) := by decide +kernel
theorem sp_X8_clear {S : St} {D : Mem} (h : INV2 D S) (hw : WF S) : Rix 1 j_X8_clear [.ref 104] D (fun u D' => CK2 D (m_clear S) u D') := by
  refine E.start 1 (ls := [some (.ref 104), none]) (by decide +kernel) (Nat.le_of_ble_eq_true rfl) rfl (Nat.le_refl _) (Nat.le_refl _) ?_
  have hcm := hw.1.2.1
  have hB2 := h.1.2.1
  refine X_aload_n (nx := 1) dX8_clear_0 rfl rfl rfl ?_
  refine M_getI (nx := 4) dX8_clear_1 rfl fl_RX8_377 rfl (by first | assumption | rfl | decide | omega) (by first | assumption | rfl | decide | omega) ?_
  refine X_top (h.2.2.2.2.1) ?_
  refine X_istore_n (i := 1) (nx := 5) dX8_clear_4 rfl rfl (by decide) rfl (st_s (st_0)) ?_
  refine X_aload_n (nx := 6) dX8_clear_5 rfl rfl rfl ?_
  refine X_iconst (v := 0) (nx := 7) dX8_clear_6 rfl rfl ?_
  refine M_putI (nx := 10) dX8_clear_7 rfl fl_RX8_377 rfl rfl (by first | assumption | rfl | decide | omega) (by first | assumption | rfl | decide | omega) ?_
  refine X_iload_n (nx := 11) dX8_clear_10 rfl rfl rfl ?_
  exact Z_reti dX8_clear_11 (Or.inl rfl) ⟨rfl, (inv2_row0 h).1, (inv2_row0 h).2⟩
