/-! THE REFERENCE: a route more, what is kept -/
def imD (D : Mem) (c : Nat) (x1 x2 x3 x4 : Int32) : Mem := up2 (up2 (up2 (up2 (up2 (up2 D 108 c 1) 109 c x1) 110 c x2) 111 c x3) 112 c x4) 104 9 (nI (c + 1))
theorem imD_fq {D : Mem} {c : Nat} {x1 x2 x3 x4 : Int32} : Fq (fun b i => (108 ≤ b ∧ b ≤ 112 ∧ i = c) ∨ (b = 104 ∧ i = 9)) D (imD D c x1 x2 x3 x4) := by
  unfold imD
  refine Fq.up' (Fq.up' (Fq.up' (Fq.up' (Fq.up' (Fq.up' Fq.rf ?_) ?_) ?_) ?_) ?_) ?_ <;> omega
theorem rb_add {D : Mem} {B : Bk} {T : Nat → Bool} {K F : Nat → Nat} {R : Nat} {v m : Int32} {s : List Nat} (h : RB D B T K F) (hs : ∀ k, k < s.length → D 113 (4 * cm_ B + k) = nI (s.getD k 0)) : RB (imD D (cm_ B) (nI R) v m (nI s.length)) (addB B R v m s) (fun i => if i = cm_ B then true else T i) K F := by
  obtain ⟨h1, h2, h3⟩ := h
  have hq := imD_fq (D := D) (c := cm_ B) (x1 := nI R) (x2 := v) (x3 := m) (x4 := nI s.length)
  refine ⟨fun i hi => ⟨?_, ?_⟩, ?_, fun i hi => ?_⟩
  · rw [hq 106 i (by omega)]; exact (h1 i hi).1
  · rw [hq 107 i (by omega)]; exact (h1 i hi).2
  · show imD D (cm_ B) (nI R) v m (nI s.length) 104 9 = nI (cm_ B + 1)
    exact up2_same
  · have hi' : i < cm_ B + 1 := hi
    show _ = b2i (if i = cm_ B then true else T i) ∧ _ = nI (if i = cm_ B then R else ro_ B i) ∧ _ = (if i = cm_ B then v else vb_ B i) ∧ _ = (if i = cm_ B then m else mo_ B i) ∧ _ = nI (if i = cm_ B then s else sg_ B i).length ∧ ∀ x, x < (if i = cm_ B then s else sg_ B i).length → _ = nI ((if i = cm_ B then s else sg_ B i).getD x 0)
    by_cases e : i = cm_ B
    · subst e
      simp only [if_pos rfl]
      refine ⟨?_, ?_, ?_, ?_, ?_, fun x hx => ?_⟩
      · simp [imD, up2]; rfl
      · simp [imD, up2]
      · simp [imD, up2]
      · simp [imD, up2]
      · simp [imD, up2]
      · rw [hq 113 _ (by omega)]; exact hs x hx
    · simp only [if_neg e]
      obtain ⟨a1, a2, a3, a4, a5, a6⟩ := h3 i (by omega)
      exact ⟨by rw [hq 108 i (by omega)]; exact a1, by rw [hq 109 i (by omega)]; exact a2, by rw [hq 110 i (by omega)]; exact a3, by rw [hq 111 i (by omega)]; exact a4, by rw [hq 112 i (by omega)]; exact a5, fun x hx => by rw [hq 113 _ (by omega)]; exact a6 x hx⟩
theorem dX8_isMore_0 : decode cX8_isMore 0 = .ok (.aload_n 0, 1) := by decide +kernel
theorem dX8_isMore_1 : decode cX8_isMore 1 = .ok (.getfield 19, 3) := by decide +kernel
theorem dX8_isMore_4 : decode cX8_isMore 4 = .ok (.aload_n 0, 1) := by decide +kernel
theorem dX8_isMore_5 : decode cX8_isMore 5 = .ok (.getfield 109, 3) := by decide +kernel
theorem dX8_isMore_8 : decode cX8_isMore 8 = .ok (.iconst 1, 1) := by decide +kernel
theorem dX8_isMore_9 : decode cX8_isMore 9 = .ok (.iastore, 1) := by decide +kernel
theorem dX8_isMore_10 : decode cX8_isMore 10 = .ok (.aload_n 0, 1) := by decide +kernel
theorem dX8_isMore_11 : decode cX8_isMore 11 = .ok (.getfield 22, 3) := by decide +kernel
theorem dX8_isMore_14 : decode cX8_isMore 14 = .ok (.aload_n 0, 1) := by decide +kernel
theorem dX8_isMore_15 : decode cX8_isMore 15 = .ok (.getfield 109, 3) := by decide +kernel
theorem dX8_isMore_18 : decode cX8_isMore 18 = .ok (.iload_n 1, 1) := by decide +kernel
theorem dX8_isMore_19 : decode cX8_isMore 19 = .ok (.iastore, 1) := by decide +kernel
theorem dX8_isMore_20 : decode cX8_isMore 20 = .ok (.aload_n 0, 1) := by decide +kernel
theorem dX8_isMore_21 : decode cX8_isMore 21 = .ok (.getfield 25, 3) := by decide +kernel
theorem dX8_isMore_24 : decode cX8_isMore 24 = .ok (.aload_n 0, 1) := by decide +kernel
theorem dX8_isMore_25 : decode cX8_isMore 25 = .ok (.getfield 109, 3) := by decide +kernel
theorem dX8_isMore_28 : decode cX8_isMore 28 = .ok (.iload_n 2, 1) := by decide +kernel
theorem dX8_isMore_29 : decode cX8_isMore 29 = .ok (.iastore, 1) := by decide +kernel
theorem dX8_isMore_30 : decode cX8_isMore 30 = .ok (.aload_n 0, 1) := by decide +kernel
theorem dX8_isMore_31 : decode cX8_isMore 31 = .ok (.getfield 28, 3) := by decide +kernel
theorem dX8_isMore_34 : decode cX8_isMore 34 = .ok (.aload_n 0, 1) := by decide +kernel
theorem dX8_isMore_35 : decode cX8_isMore 35 = .ok (.getfield 109, 3) := by decide +kernel
theorem dX8_isMore_38 : decode cX8_isMore 38 = .ok (.iload_n 3, 1) := by decide +kernel
theorem dX8_isMore_39 : decode cX8_isMore 39 = .ok (.iastore, 1) := by decide +kernel
theorem dX8_isMore_40 : decode cX8_isMore 40 = .ok (.aload_n 0, 1) := by decide +kernel
theorem dX8_isMore_41 : decode cX8_isMore 41 = .ok (.getfield 31, 3) := by decide +kernel
theorem dX8_isMore_44 : decode cX8_isMore 44 = .ok (.aload_n 0, 1) := by decide +kernel
theorem dX8_isMore_45 : decode cX8_isMore 45 = .ok (.getfield 109, 3) := by decide +kernel
theorem dX8_isMore_48 : decode cX8_isMore 48 = .ok (.iload 4, 2) := by decide +kernel
theorem dX8_isMore_50 : decode cX8_isMore 50 = .ok (.iastore, 1) := by decide +kernel
theorem dX8_isMore_51 : decode cX8_isMore 51 = .ok (.aload_n 0, 1) := by decide +kernel
theorem dX8_isMore_52 : decode cX8_isMore 52 = .ok (.dup, 1) := by decide +kernel
theorem dX8_isMore_53 : decode cX8_isMore 53 = .ok (.getfield 109, 3) := by decide +kernel
theorem dX8_isMore_56 : decode cX8_isMore 56 = .ok (.iconst 1, 1) := by decide +kernel
theorem dX8_isMore_57 : decode cX8_isMore 57 = .ok (.iadd, 1) := by decide +kernel
theorem dX8_isMore_58 : decode cX8_isMore 58 = .ok (.putfield 109, 3) := by decide +kernel
theorem dX8_isMore_61 : decode cX8_isMore 61 = .ok (.return_, 1) := by decide +kernel
theorem sp_X8_isMore {c : Nat} {x1 x2 x3 x4 : Int32} {D : Mem} (hB2 : D 104 9 = nI c) (hc : c < 10) : Ev 1 j_X8_isMore [.ref 104, .int x1, .int x2, .int x3, .int x4] D (imD D c x1 x2 x3 x4) := by
  refine E.start 0 (ls := [some (.ref 104), some (.int x1), some (.int x2), some (.int x3), some (.int x4)]) (by decide +kernel) (Nat.le_of_ble_eq_true rfl) rfl (Nat.le_refl _) (Nat.le_refl _) ?_
  refine X_aload_n (nx := 1) dX8_isMore_0 rfl rfl rfl ?_
  refine M_getP (nx := 4) dX8_isMore_1 rfl fl_RX8_19 rfl (by first | assumption | rfl | decide | omega) (by first | assumption | rfl | decide | omega) (by first | assumption | rfl | decide | omega) ?_
  refine X_aload_n (nx := 5) dX8_isMore_4 rfl rfl rfl ?_
  refine M_getI (nx := 8) dX8_isMore_5 rfl fl_RX8_109 rfl (by first | assumption | rfl | decide | omega) (by first | assumption | rfl | decide | omega) ?_
  refine X_top (show _ = nI c from (by simp [up2, hB2])) ?_
  refine X_iconst (v := 1) (nx := 9) dX8_isMore_8 rfl rfl ?_
  refine M_st (a := 108) (L := 10) (nx := 10) dX8_isMore_9 rfl (by decide) (by decide) rfl (by decide) (by omega) ?_
  refine X_aload_n (nx := 11) dX8_isMore_10 rfl rfl rfl ?_
  refine M_getP (nx := 14) dX8_isMore_11 rfl fl_RX8_22 rfl (by first | assumption | rfl | decide | omega) (by first | assumption | rfl | decide | omega) (by first | assumption | rfl | decide | omega) ?_
  refine X_aload_n (nx := 15) dX8_isMore_14 rfl rfl rfl ?_
  refine M_getI (nx := 18) dX8_isMore_15 rfl fl_RX8_109 rfl (by first | assumption | rfl | decide | omega) (by first | assumption | rfl | decide | omega) ?_
  refine X_top (show _ = nI c from (by simp [up2, hB2])) ?_
  refine X_iload_n (nx := 19) dX8_isMore_18 rfl rfl rfl ?_
  refine M_st (a := 109) (L := 10) (nx := 20) dX8_isMore_19 rfl (by decide) (by decide) rfl (by decide) (by omega) ?_
  refine X_aload_n (nx := 21) dX8_isMore_20 rfl rfl rfl ?_
  refine M_getP (nx := 24) dX8_isMore_21 rfl fl_RX8_25 rfl (by first | assumption | rfl | decide | omega) (by first | assumption | rfl | decide | omega) (by first | assumption | rfl | decide | omega) ?_
  refine X_aload_n (nx := 25) dX8_isMore_24 rfl rfl rfl ?_
  refine M_getI (nx := 28) dX8_isMore_25 rfl fl_RX8_109 rfl (by first | assumption | rfl | decide | omega) (by first | assumption | rfl | decide | omega) ?_
  refine X_top (show _ = nI c from (by simp [up2, hB2])) ?_
  refine X_iload_n (nx := 29) dX8_isMore_28 rfl rfl rfl ?_
  refine M_st (a := 110) (L := 10) (nx := 30) dX8_isMore_29 rfl (by decide) (by decide) rfl (by decide) (by omega) ?_
  refine X_aload_n (nx := 31) dX8_isMore_30 rfl rfl rfl ?_
  refine M_getP (nx := 34) dX8_isMore_31 rfl fl_RX8_28 rfl (by first | assumption | rfl | decide | omega) (by first | assumption | rfl | decide | omega) (by first | assumption | rfl | decide | omega) ?_
  refine X_aload_n (nx := 35) dX8_isMore_34 rfl rfl rfl ?_
  refine M_getI (nx := 38) dX8_isMore_35 rfl fl_RX8_109 rfl (by first | assumption | rfl | decide | omega) (by first | assumption | rfl | decide | omega) ?_
  refine X_top (show _ = nI c from (by simp [up2, hB2])) ?_
  refine X_iload_n (nx := 39) dX8_isMore_38 rfl rfl rfl ?_
  refine M_st (a := 111) (L := 10) (nx := 40) dX8_isMore_39 rfl (by decide) (by decide) rfl (by decide) (by omega) ?_
  refine X_aload_n (nx := 41) dX8_isMore_40 rfl rfl rfl ?_
  refine M_getP (nx := 44) dX8_isMore_41 rfl fl_RX8_31 rfl (by first | assumption | rfl | decide | omega) (by first | assumption | rfl | decide | omega) (by first | assumption | rfl | decide | omega) ?_
  refine X_aload_n (nx := 45) dX8_isMore_44 rfl rfl rfl ?_
  refine M_getI (nx := 48) dX8_isMore_45 rfl fl_RX8_109 rfl (by first | assumption | rfl | decide | omega) (by first | assumption | rfl | decide | omega) ?_
  refine X_top (show _ = nI c from (by simp [up2, hB2])) ?_
  refine X_iload (nx := 50) dX8_isMore_48 rfl rfl ?_
  refine M_st (a := 112) (L := 10) (nx := 51) dX8_isMore_50 rfl (by decide) (by decide) rfl (by decide) (by omega) ?_
  refine X_aload_n (nx := 52) dX8_isMore_51 rfl rfl rfl ?_
  refine X_dup (nx := 53) dX8_isMore_52 rfl rfl ?_
  refine M_getI (nx := 56) dX8_isMore_53 rfl fl_RX8_109 rfl (by first | assumption | rfl | decide | omega) (by first | assumption | rfl | decide | omega) ?_
  refine X_top (show _ = nI c from (by simp [up2, hB2])) ?_
  refine X_iconst (v := 1) (nx := 57) dX8_isMore_56 rfl rfl ?_
  refine X_iadd (nx := 58) dX8_isMore_57 rfl ?_
  refine X_top (nI_1 _) ?_
  refine M_putI (nx := 61) dX8_isMore_58 rfl fl_RX8_109 rfl rfl (by first | assumption | rfl | decide | omega) (by first | assumption | rfl | decide | omega) ?_
  exact Y_retv dX8_isMore_61 rfl rfl
theorem dX8_copies_0 : decode cX8_copies 0 = .ok (.aload_n 0, 1) := by decide +kernel
theorem dX8_copies_1 : decode cX8_copies 1 = .ok (.iload_n 1, 1) := by decide +kernel
theorem dX8_copies_2 : decode cX8_copies 2 = .ok (.invokevirtual 254, 3) := by decide +kernel
theorem dX8_copies_5 : decode cX8_copies 5 = .ok (.ifCond .eq 10, 3) := by decide +kernel
theorem dX8_copies_8 : decode cX8_copies 8 = .ok (.iload_n 2, 1) := by decide +kernel
theorem dX8_copies_9 : decode cX8_copies 9 = .ok (.invokestatic 240, 3) := by decide +kernel
theorem dX8_copies_12 : decode cX8_copies 12 = .ok (.ifCond .ne 7, 3) := by decide +kernel
theorem dX8_copies_15 : decode cX8_copies 15 = .ok (.iconst (-1), 1) := by decide +kernel
theorem dX8_copies_16 : decode cX8_copies 16 = .ok (.goto 41, 3) := by decide +kernel
theorem dX8_copies_19 : decode cX8_copies 19 = .ok (.aload_n 0, 1) := by decide +kernel
theorem dX8_copies_20 : decode cX8_copies 20 = .ok (.iload_n 1, 1) := by decide +kernel
theorem dX8_copies_21 : decode cX8_copies 21 = .ok (.invokevirtual 127, 3) := by decide +kernel
theorem dX8_copies_24 : decode cX8_copies 24 = .ok (.ifCond .eq 18, 3) := by decide +kernel
theorem dX8_copies_27 : decode cX8_copies 27 = .ok (.aload_n 0, 1) := by decide +kernel
theorem dX8_copies_28 : decode cX8_copies 28 = .ok (.getfield 28, 3) := by decide +kernel
theorem dX8_copies_31 : decode cX8_copies 31 = .ok (.iload_n 1, 1) := by decide +kernel
theorem dX8_copies_32 : decode cX8_copies 32 = .ok (.iaload, 1) := by decide +kernel
theorem dX8_copies_33 : decode cX8_copies 33 = .ok (.iload_n 2, 1) := by decide +kernel
theorem dX8_copies_34 : decode cX8_copies 34 = .ok (.if_icmp .gt 8, 3) := by decide +kernel
theorem dX8_copies_37 : decode cX8_copies 37 = .ok (.bipush (-3), 2) := by decide +kernel
theorem dX8_copies_39 : decode cX8_copies 39 = .ok (.goto 18, 3) := by decide +kernel
theorem dX8_copies_42 : decode cX8_copies 42 = .ok (.aload_n 0, 1) := by decide +kernel
theorem dX8_copies_43 : decode cX8_copies 43 = .ok (.getfield 109, 3) := by decide +kernel
theorem dX8_copies_46 : decode cX8_copies 46 = .ok (.bipush 10, 2) := by decide +kernel
theorem dX8_copies_48 : decode cX8_copies 48 = .ok (.if_icmp .ne 8, 3) := by decide +kernel
theorem dX8_copies_51 : decode cX8_copies 51 = .ok (.bipush (-6), 2) := by decide +kernel
theorem dX8_copies_53 : decode cX8_copies 53 = .ok (.goto 4, 3) := by decide +kernel
theorem dX8_copies_56 : decode cX8_copies 56 = .ok (.iconst 0, 1) := by decide +kernel
theorem dX8_copies_57 : decode cX8_copies 57 = .ok (.istore_n 3, 1) := by decide +kernel
theorem dX8_copies_58 : decode cX8_copies 58 = .ok (.iload_n 3, 1) := by decide +kernel
theorem dX8_copies_59 : decode cX8_copies 59 = .ok (.ifCond .eq 9, 3) := by decide +kernel
theorem dX8_copies_62 : decode cX8_copies 62 = .ok (.aload_n 0, 1) := by decide +kernel
theorem dX8_copies_63 : decode cX8_copies 63 = .ok (.iload_n 3, 1) := by decide +kernel
theorem dX8_copies_64 : decode cX8_copies 64 = .ok (.invokevirtual 211, 3) := by decide +kernel
theorem dX8_copies_67 : decode cX8_copies 67 = .ok (.ireturn, 1) := by decide +kernel
theorem dX8_copies_68 : decode cX8_copies 68 = .ok (.iconst 0, 1) := by decide +kernel
theorem dX8_copies_69 : decode cX8_copies 69 = .ok (.istore 4, 2) := by decide +kernel
theorem dX8_copies_71 : decode cX8_copies 71 = .ok (.iload 4, 2) := by decide +kernel
theorem dX8_copies_73 : decode cX8_copies 73 = .ok (.iconst 4, 1) := by decide +kernel
theorem dX8_copies_74 : decode cX8_copies 74 = .ok (.if_icmp .ge 34, 3) := by decide +kernel
theorem dX8_copies_77 : decode cX8_copies 77 = .ok (.aload_n 0, 1) := by decide +kernel
theorem dX8_copies_78 : decode cX8_copies 78 = .ok (.getfield 34, 3) := by decide +kernel
theorem dX8_copies_81 : decode cX8_copies 81 = .ok (.iconst 4, 1) := by decide +kernel
theorem dX8_copies_82 : decode cX8_copies 82 = .ok (.aload_n 0, 1) := by decide +kernel
theorem dX8_copies_83 : decode cX8_copies 83 = .ok (.getfield 109, 3) := by decide +kernel
theorem dX8_copies_86 : decode cX8_copies 86 = .ok (.imul, 1) := by decide +kernel
theorem dX8_copies_87 : decode cX8_copies 87 = .ok (.iload 4, 2) := by decide +kernel
theorem dX8_copies_89 : decode cX8_copies 89 = .ok (.iadd, 1) := by decide +kernel
theorem dX8_copies_90 : decode cX8_copies 90 = .ok (.aload_n 0, 1) := by decide +kernel
theorem dX8_copies_91 : decode cX8_copies 91 = .ok (.getfield 34, 3) := by decide +kernel
theorem dX8_copies_94 : decode cX8_copies 94 = .ok (.iconst 4, 1) := by decide +kernel
theorem dX8_copies_95 : decode cX8_copies 95 = .ok (.iload_n 1, 1) := by decide +kernel
theorem dX8_copies_96 : decode cX8_copies 96 = .ok (.imul, 1) := by decide +kernel
theorem dX8_copies_97 : decode cX8_copies 97 = .ok (.iload 4, 2) := by decide +kernel
theorem dX8_copies_99 : decode cX8_copies 99 = .ok (.iadd, 1) := by decide +kernel
theorem dX8_copies_100 : decode cX8_copies 100 = .ok (.iaload, 1) := by decide +kernel
theorem dX8_copies_101 : decode cX8_copies 101 = .ok (.iastore, 1) := by decide +kernel
theorem dX8_copies_102 : decode cX8_copies 102 = .ok (.iinc 4 1, 3) := by decide +kernel
theorem dX8_copies_105 : decode cX8_copies 105 = .ok (.goto (-34), 3) := by decide +kernel
theorem dX8_copies_108 : decode cX8_copies 108 = .ok (.aload_n 0, 1) := by decide +kernel
theorem dX8_copies_109 : decode cX8_copies 109 = .ok (.iload_n 2, 1) := by decide +kernel
theorem dX8_copies_110 : decode cX8_copies 110 = .ok (.aload_n 0, 1) := by decide +kernel
theorem dX8_copies_111 : decode cX8_copies 111 = .ok (.getfield 25, 3) := by decide +kernel
theorem dX8_copies_114 : decode cX8_copies 114 = .ok (.iload_n 1, 1) := by decide +kernel
theorem dX8_copies_115 : decode cX8_copies 115 = .ok (.iaload, 1) := by decide +kernel
theorem dX8_copies_116 : decode cX8_copies 116 = .ok (.aload_n 0, 1) := by decide +kernel
theorem dX8_copies_117 : decode cX8_copies 117 = .ok (.getfield 28, 3) := by decide +kernel
theorem dX8_copies_120 : decode cX8_copies 120 = .ok (.iload_n 1, 1) := by decide +kernel
theorem dX8_copies_121 : decode cX8_copies 121 = .ok (.iaload, 1) := by decide +kernel
theorem dX8_copies_122 : decode cX8_copies 122 = .ok (.aload_n 0, 1) := by decide +kernel
theorem dX8_copies_123 : decode cX8_copies 123 = .ok (.getfield 31, 3) := by decide +kernel
theorem dX8_copies_126 : decode cX8_copies 126 = .ok (.iload_n 1, 1) := by decide +kernel
theorem dX8_copies_127 : decode cX8_copies 127 = .ok (.iaload, 1) := by decide +kernel
theorem dX8_copies_128 : decode cX8_copies 128 = .ok (.invokevirtual 250, 3) := by decide +kernel
theorem dX8_copies_131 : decode cX8_copies 131 = .ok (.aload_n 0, 1) := by decide +kernel
theorem dX8_copies_132 : decode cX8_copies 132 = .ok (.getfield 109, 3) := by decide +kernel
theorem dX8_copies_135 : decode cX8_copies 135 = .ok (.iconst 1, 1) := by decide +kernel
theorem dX8_copies_136 : decode cX8_copies 136 = .ok (.isub, 1) := by decide +kernel
theorem dX8_copies_137 : decode cX8_copies 137 = .ok (.ireturn, 1) := by decide +kernel
theorem rb_seg {D D1 : Mem} {B : Bk} {T : Nat → Bool} {K F : Nat → Nat} (hV : VB B) (h : RB D B T K F) (hq : Fq (fun b i => b = 113 ∧ 4 * cm_ B ≤ i) D D1) : RB D1 B T K F := by
  obtain ⟨h1, h2, h3⟩ := h
  refine ⟨fun i hi => ⟨(hq 106 i (by omega)).trans (h1 i hi).1, (hq 107 i (by omega)).trans (h1 i hi).2⟩, (hq 104 9 (by omega)).trans h2, fun i hi => ?_⟩
  obtain ⟨a1, a2, a3, a4, a5, a6⟩ := h3 i hi
  exact ⟨(hq 108 i (by omega)).trans a1, (hq 109 i (by omega)).trans a2, (hq 110 i (by omega)).trans a3, (hq 111 i (by omega)).trans a4, (hq 112 i (by omega)).trans a5, fun x hx => (hq 113 _ (by have := sgl_le hV hi; omega)).trans (a6 x hx)⟩
theorem lp_X8_copies {S : St} {D : Mem} {r R : Nat} {z : Int32} (hw : WF S) (h : INV2 D S) (hr : r < cm_ (bk S)) (hc : cm_ (bk S) < 10) : ∀ (m : Nat) (i : Nat) (D1 : Mem), i + m = 4 → (∀ k, k < i → D1 113 (4 * cm_ (bk S) + k) = D 113 (4 * r + k)) → Fq (fun b i => b = 113 ∧ 4 * cm_ (bk S) ≤ i) D D1 → X 3 138 j_X8_copies 71 [some (.ref 104), some (.int (nI r)), some (.int (nI R)), some (.int z), some (.int (nI i))] [] (138, P0, D1) (fun x σ => ∃ (u : Int32) (D' : Mem), x = [.int u] ∧ σ = wd D' ∧ CK2 D (nI (cm_ (bk S)), sB S (addB (bk S) R (vb_ (bk S) r) (mo_ (bk S) r) (sg_ (bk S) r))) u D') := by
  intro m
  induction m with
  | zero =>
    intro i D1 hi hl hq
    have h104 : D1 104 9 = nI (cm_ (bk S)) := (hq 104 9 (by omega)).trans h.1.2.1
    have hB := h.1.2.2 r hr
    refine X_iload (nx := 73) dX8_copies_71 rfl rfl ?_
    refine X_iconst (v := nI 4) (nx := 74) dX8_copies_73 rfl rfl ?_
    refine X_icmp_ge (tgt := 108) (nx := 77) dX8_copies_74 rfl rfl (fun h74 => ?_) (fun h74 => ?_)
    · skip
      refine X_aload_n (nx := 109) dX8_copies_108 rfl rfl rfl ?_
      refine X_iload_n (nx := 110) dX8_copies_109 rfl rfl rfl ?_
      refine X_aload_n (nx := 111) dX8_copies_110 rfl rfl rfl ?_
      refine M_getP (nx := 114) dX8_copies_111 rfl fl_RX8_25 rfl (by first | assumption | rfl | decide | omega) (by first | assumption | rfl | decide | omega) (by first | assumption | rfl | decide | omega) ?_
      refine X_iload_n (nx := 115) dX8_copies_114 rfl rfl rfl ?_
      refine M_ld (a := 110) (L := 10) (nx := 116) dX8_copies_115 rfl (by decide) (by decide) rfl (by decide) (by omega) ((hq 110 r (by omega)).trans hB.2.2.1) ?_
      refine X_aload_n (nx := 117) dX8_copies_116 rfl rfl rfl ?_
      refine M_getP (nx := 120) dX8_copies_117 rfl fl_RX8_28 rfl (by first | assumption | rfl | decide | omega) (by first | assumption | rfl | decide | omega) (by first | assumption | rfl | decide | omega) ?_
      refine X_iload_n (nx := 121) dX8_copies_120 rfl rfl rfl ?_
      refine M_ld (a := 111) (L := 10) (nx := 122) dX8_copies_121 rfl (by decide) (by decide) rfl (by decide) (by omega) ((hq 111 r (by omega)).trans hB.2.2.2.1) ?_
      refine X_aload_n (nx := 123) dX8_copies_122 rfl rfl rfl ?_
      refine M_getP (nx := 126) dX8_copies_123 rfl fl_RX8_31 rfl (by first | assumption | rfl | decide | omega) (by first | assumption | rfl | decide | omega) (by first | assumption | rfl | decide | omega) ?_
      refine X_iload_n (nx := 127) dX8_copies_126 rfl rfl rfl ?_
      refine M_ld (a := 112) (L := 10) (nx := 128) dX8_copies_127 rfl (by decide) (by decide) rfl (by decide) (by omega) ((hq 112 r (by omega)).trans hB.2.2.2.2.1) ?_
      refine Y_Vv4 (nx := 131) dX8_copies_128 rfl ml_RX8_250 kj_X8_isMore kv_X8_isMore (sp_X8_isMore h104 hc) (by first | assumption | rfl | decide | omega) (by first | assumption | rfl | decide | omega) (by decide) rfl (by first | decide | omega) (by exact Nat.le_of_ble_eq_true rfl) ?_
      refine X_aload_n (nx := 132) dX8_copies_131 rfl rfl rfl ?_
      refine M_getI (nx := 135) dX8_copies_132 rfl fl_RX8_109 rfl (by first | assumption | rfl | decide | omega) (by first | assumption | rfl | decide | omega) ?_
      refine X_top (show _ = nI (cm_ (bk S) + 1) from up2_same) ?_
      refine X_iconst (v := 1) (nx := 136) dX8_copies_135 rfl rfl ?_
      refine X_isub (nx := 137) dX8_copies_136 rfl ?_
      refine X_top (sub1 _) ?_
      exact Z_reti dX8_copies_137 (Or.inl rfl) (by
        have hb0 : RB D1 (bk S) (th_ (bk S)) (kd_ (bk S)) (fg_ (bk S)) := rb_seg hw.1 h.1 hq
        have hb := rb_add (R := R) (v := vb_ (bk S) r) (m := mo_ (bk S) r) (s := sg_ (bk S) r) hb0 (fun k hk => by rw [hl k (by have := sgl_le hw.1 hr; omega)]; exact hB.2.2.2.2.2 k hk)
        have hq2 : Fq BKS D (imD D1 (cm_ (bk S)) (nI R) (vb_ (bk S) r) (mo_ (bk S) r) (nI (sg_ (bk S) r).length)) := (hq.mono (fun b i q => by unfold BKS; omega)).tr (imD_fq.mono (fun b i q => by unfold BKS; omega))
        exact ⟨rfl, ⟨hb, h.2.fb hq2⟩, BKS.fr hq2⟩)
    · exact absurd h74 (fun q => q (nI_le (by omega) (by omega)))
  | succ m ih =>
    intro i D1 hi hl hq
    have h104 : D1 104 9 = nI (cm_ (bk S)) := (hq 104 9 (by omega)).trans h.1.2.1
    refine X_iload (nx := 73) dX8_copies_71 rfl rfl ?_
    refine X_iconst (v := nI 4) (nx := 74) dX8_copies_73 rfl rfl ?_
    refine X_icmp_ge (tgt := 108) (nx := 77) dX8_copies_74 rfl rfl (fun h74 => ?_) (fun h74 => ?_)
    · exact absurd h74 (nI_ge (by omega) (by omega))
    · skip
      refine X_aload_n (nx := 78) dX8_copies_77 rfl rfl rfl ?_
      refine M_getP (nx := 81) dX8_copies_78 rfl fl_RX8_34 rfl (by first | assumption | rfl | decide | omega) (by first | assumption | rfl | decide | omega) (by first | assumption | rfl | decide | omega) ?_
      refine X_iconst (v := nI 4) (nx := 82) dX8_copies_81 rfl rfl ?_
      refine X_aload_n (nx := 83) dX8_copies_82 rfl rfl rfl ?_
      refine M_getI (nx := 86) dX8_copies_83 rfl fl_RX8_109 rfl (by first | assumption | rfl | decide | omega) (by first | assumption | rfl | decide | omega) ?_
      refine X_top (h104) ?_
      refine X_imul (nx := 87) dX8_copies_86 rfl ?_
      refine X_top (mul_nI) ?_
      refine X_iload (nx := 89) dX8_copies_87 rfl rfl ?_
      refine X_iadd (nx := 90) dX8_copies_89 rfl ?_
      refine X_top (nI_add _ _) ?_
      refine X_aload_n (nx := 91) dX8_copies_90 rfl rfl rfl ?_
      refine M_getP (nx := 94) dX8_copies_91 rfl fl_RX8_34 rfl (by first | assumption | rfl | decide | omega) (by first | assumption | rfl | decide | omega) (by first | assumption | rfl | decide | omega) ?_
      refine X_iconst (v := nI 4) (nx := 95) dX8_copies_94 rfl rfl ?_
      refine X_iload_n (nx := 96) dX8_copies_95 rfl rfl rfl ?_
      refine X_imul (nx := 97) dX8_copies_96 rfl ?_
      refine X_top (mul_nI) ?_
      refine X_iload (nx := 99) dX8_copies_97 rfl rfl ?_
      refine X_iadd (nx := 100) dX8_copies_99 rfl ?_
      refine X_top (nI_add _ _) ?_
      refine M_ld (a := 113) (L := 40) (nx := 101) dX8_copies_100 rfl (by decide) (by decide) rfl (by decide) (by omega) (rfl) ?_
      refine M_st (a := 113) (L := 40) (nx := 102) dX8_copies_101 rfl (by decide) (by decide) rfl (by decide) (by omega) ?_
      refine X_iinc (nx := 105) dX8_copies_102 rfl (by decide) rfl (by first | exact ii1 _ | rfl) rfl (st_s (st_s (st_s (st_s (st_0))))) ?_
      refine X_goto (tgt := 71) dX8_copies_105 rfl ?_
      refine ih (i + 1) _ (by omega) (fun k hk => ?_) (hq.tr (Fq.up ⟨rfl, by omega⟩))
      by_cases e : k = i
      · subst e; rw [up2_same]; exact hq 113 _ (by omega)
      · rw [up2_other (by omega)]; exact hl k (by omega)
theorem sp_X8_copies {x y : Int32} {S : St} {D : Mem} (h : INV2 D S) (hw : WF S) : Rix 3 j_X8_copies [.ref 104, .int x, .int y] D (fun u D' => CK2 D (m_copies S x y) u D') := by
  refine E.start 2 (ls := [some (.ref 104), some (.int x), some (.int y), none, none]) (by decide +kernel) (Nat.le_of_ble_eq_true rfl) rfl (Nat.le_refl _) (Nat.le_refl _) ?_
  have hcm := hw.1.2.1
  have hB2 := h.1.2.1
  refine X_aload_n (nx := 1) dX8_copies_0 rfl rfl rfl ?_
  refine X_iload_n (nx := 2) dX8_copies_1 rfl rfl rfl ?_
  refine Y_Vi1 (nx := 5) dX8_copies_2 rfl ml_RX8_254 kj_X8_isRoute kv_X8_isRoute (sp_X8_isRoute h.1 hw.1) (by first | assumption | rfl | decide | omega) (by first | assumption | rfl | decide | omega) (by decide) rfl (by first | decide | omega) (by exact Nat.le_of_ble_eq_true rfl) ?_
  refine X_top (show _ = b2i (isTh (bk S) x) from rfl) ?_
  refine X_if_eq (tgt := 15) (nx := 8) dX8_copies_5 rfl rfl (fun h5 => ?_) (fun h5 => ?_)
  · skip
    have n5 := nb h5
    refine X_iconst (v := -1) (nx := 16) dX8_copies_15 rfl rfl ?_
    refine X_goto (tgt := 57) dX8_copies_16 rfl ?_
    refine X_istore_n (i := 3) (nx := 58) dX8_copies_57 rfl rfl (by decide) rfl (st_s (st_s (st_s (st_0)))) ?_
    refine X_iload_n (nx := 59) dX8_copies_58 rfl rfl rfl ?_
    refine X_if_eq (tgt := 68) (nx := 62) dX8_copies_59 rfl rfl (fun h59 => ?_) (fun h59 => ?_)
    · exact absurd h59 (by decide)
    · skip
      refine X_aload_n (nx := 63) dX8_copies_62 rfl rfl rfl ?_
      refine X_iload_n (nx := 64) dX8_copies_63 rfl rfl rfl ?_
      refine Y_Vi1 (nx := 67) dX8_copies_64 rfl ml_RX8_211 kj_X8_no kv_X8_no (by first | exact sp_X8_no (k := 1) rfl (by omega) (by omega) | exact sp_X8_no (k := 3) rfl (by omega) (by omega) | exact sp_X8_no (k := 6) rfl (by omega) (by omega)) (by first | assumption | rfl | decide | omega) (by first | assumption | rfl | decide | omega) (by decide) rfl (by first | decide | omega) (by exact Nat.le_of_ble_eq_true rfl) ?_
      exact Z_reti dX8_copies_67 (Or.inl rfl) (by
        unfold m_copies
        first
        | (rw [if_neg n5]; exact ck2_no (k := 1) h Fr.rf (by omega) (by omega))
        | (rw [if_pos c5, if_neg n12]; exact ck2_no (k := 1) h Fr.rf (by omega) (by omega))
        | (rw [if_pos c5, if_pos c12, k5, if_pos ⟨c24, Int32.not_lt.mp h34⟩]; exact ck2_no (k := 3) h Fr.rf (by omega) (by omega))
        | (rw [if_pos c5, if_pos c12, k5, if_neg (fun q => by first | exact n24 q.1 | exact Int32.not_lt.mpr q.2 h34), if_pos (by omega)]; exact ck2_no (k := 6) h Fr.rf (by omega) (by omega)))
  · skip
    have c5 := b2i_t.mp h5
    obtain ⟨r, hr, rfl, tr⟩ := isTh_t hcm c5
    have k5 : (nI r).toNatClampNeg = r := nI_clamp (by omega)
    refine X_iload_n (nx := 9) dX8_copies_8 rfl rfl rfl ?_
    refine Y_Si1 (nx := 12) dX8_copies_9 rfl ml_RX8_240 kj_X8_isRouter ks_X8_isRouter (sp_X8_isRouter) (by first | decide | omega) (by exact Nat.le_of_ble_eq_true rfl) ?_
    refine X_if_ne (tgt := 19) (nx := 15) dX8_copies_12 rfl rfl (fun h12 => ?_) (fun h12 => ?_)
    · skip
      have c12 := b2i_t.mp h12
      obtain ⟨R, hR, rfl⟩ := ex_nI (N := 3) (n := 3) rfl (by decide) (of_decide_eq_true c12)
      have k12 : (nI R).toNatClampNeg = R := nI_clamp (by omega)
      refine X_aload_n (nx := 20) dX8_copies_19 rfl rfl rfl ?_
      refine X_iload_n (nx := 21) dX8_copies_20 rfl rfl rfl ?_
      refine Y_Vi1 (nx := 24) dX8_copies_21 rfl ml_RX8_127 kj_X8_isMount kv_X8_isMount (sp_X8_isMount h.1 hw.1 rfl hr) (by first | assumption | rfl | decide | omega) (by first | assumption | rfl | decide | omega) (by decide) rfl (by first | decide | omega) (by exact Nat.le_of_ble_eq_true rfl) ?_
      refine X_if_eq (tgt := 42) (nx := 27) dX8_copies_24 rfl rfl (fun h24 => ?_) (fun h24 => ?_)
      · skip
        have n24 := nb h24
        refine X_aload_n (nx := 43) dX8_copies_42 rfl rfl rfl ?_
        refine M_getI (nx := 46) dX8_copies_43 rfl fl_RX8_109 rfl (by first | assumption | rfl | decide | omega) (by first | assumption | rfl | decide | omega) ?_
        refine X_top (h.1.2.1) ?_
        refine X_bipush (v := nI 10) (nx := 48) dX8_copies_46 rfl rfl ?_
        refine X_icmp_ne (tgt := 56) (nx := 51) dX8_copies_48 rfl rfl (fun h48 => ?_) (fun h48 => ?_)
        · skip
          rw [nI_eq (by omega) (by omega)] at h48
          refine X_iconst (v := 0) (nx := 57) dX8_copies_56 rfl rfl ?_
          refine X_istore_n (i := 3) (nx := 58) dX8_copies_57 rfl rfl (by decide) rfl (st_s (st_s (st_s (st_0)))) ?_
          refine X_iload_n (nx := 59) dX8_copies_58 rfl rfl rfl ?_
          refine X_if_eq (tgt := 68) (nx := 62) dX8_copies_59 rfl rfl (fun h59 => ?_) (fun h59 => ?_)
          · skip
            refine X_iconst (v := nI 0) (nx := 69) dX8_copies_68 rfl rfl ?_
            refine X_istore (i := 4) (nx := 71) dX8_copies_69 rfl (by decide) rfl (st_s (st_s (st_s (st_s (st_0))))) ?_
            (unfold m_copies
             rw [if_pos c5, if_pos c12, k5, k12, if_neg (fun q => by first | exact n24 q.1 | exact Int32.not_lt.mpr q.2 h34), if_neg (by omega)]
             exact lp_X8_copies hw h hr (by omega) 4 0 D rfl (fun k hk => absurd hk (Nat.not_lt_zero _)) Fq.rf)
          · exact absurd h59 (by decide)
        · skip
          rw [nI_eq (by omega) (by omega)] at h48
          refine X_bipush (v := -6) (nx := 53) dX8_copies_51 rfl rfl ?_
          refine X_goto (tgt := 57) dX8_copies_53 rfl ?_
          refine X_istore_n (i := 3) (nx := 58) dX8_copies_57 rfl rfl (by decide) rfl (st_s (st_s (st_s (st_0)))) ?_
          refine X_iload_n (nx := 59) dX8_copies_58 rfl rfl rfl ?_
          refine X_if_eq (tgt := 68) (nx := 62) dX8_copies_59 rfl rfl (fun h59 => ?_) (fun h59 => ?_)
          · exact absurd h59 (by decide)
          · skip
            refine X_aload_n (nx := 63) dX8_copies_62 rfl rfl rfl ?_
            refine X_iload_n (nx := 64) dX8_copies_63 rfl rfl rfl ?_
            refine Y_Vi1 (nx := 67) dX8_copies_64 rfl ml_RX8_211 kj_X8_no kv_X8_no (by first | exact sp_X8_no (k := 1) rfl (by omega) (by omega) | exact sp_X8_no (k := 3) rfl (by omega) (by omega) | exact sp_X8_no (k := 6) rfl (by omega) (by omega)) (by first | assumption | rfl | decide | omega) (by first | assumption | rfl | decide | omega) (by decide) rfl (by first | decide | omega) (by exact Nat.le_of_ble_eq_true rfl) ?_
            exact Z_reti dX8_copies_67 (Or.inl rfl) (by
              unfold m_copies
              first
              | (rw [if_neg n5]; exact ck2_no (k := 1) h Fr.rf (by omega) (by omega))
              | (rw [if_pos c5, if_neg n12]; exact ck2_no (k := 1) h Fr.rf (by omega) (by omega))
              | (rw [if_pos c5, if_pos c12, k5, if_pos ⟨c24, Int32.not_lt.mp h34⟩]; exact ck2_no (k := 3) h Fr.rf (by omega) (by omega))
              | (rw [if_pos c5, if_pos c12, k5, if_neg (fun q => by first | exact n24 q.1 | exact Int32.not_lt.mpr q.2 h34), if_pos (by omega)]; exact ck2_no (k := 6) h Fr.rf (by omega) (by omega)))
      · skip
        have c24 := b2i_t.mp h24
        refine X_aload_n (nx := 28) dX8_copies_27 rfl rfl rfl ?_
        refine M_getP (nx := 31) dX8_copies_28 rfl fl_RX8_28 rfl (by first | assumption | rfl | decide | omega) (by first | assumption | rfl | decide | omega) (by first | assumption | rfl | decide | omega) ?_
        refine X_iload_n (nx := 32) dX8_copies_31 rfl rfl rfl ?_
        refine M_ld (a := 111) (L := 10) (nx := 33) dX8_copies_32 rfl (by decide) (by decide) rfl (by decide) (by omega) ((h.1.2.2 r hr).2.2.2.1) ?_
        refine X_iload_n (nx := 34) dX8_copies_33 rfl rfl rfl ?_
        refine X_icmp_gt (tgt := 42) (nx := 37) dX8_copies_34 rfl rfl (fun h34 => ?_) (fun h34 => ?_)
        · skip
          refine X_aload_n (nx := 43) dX8_copies_42 rfl rfl rfl ?_
          refine M_getI (nx := 46) dX8_copies_43 rfl fl_RX8_109 rfl (by first | assumption | rfl | decide | omega) (by first | assumption | rfl | decide | omega) ?_
          refine X_top (h.1.2.1) ?_
          refine X_bipush (v := nI 10) (nx := 48) dX8_copies_46 rfl rfl ?_
          refine X_icmp_ne (tgt := 56) (nx := 51) dX8_copies_48 rfl rfl (fun h48 => ?_) (fun h48 => ?_)
          · skip
            rw [nI_eq (by omega) (by omega)] at h48
            refine X_iconst (v := 0) (nx := 57) dX8_copies_56 rfl rfl ?_
            refine X_istore_n (i := 3) (nx := 58) dX8_copies_57 rfl rfl (by decide) rfl (st_s (st_s (st_s (st_0)))) ?_
            refine X_iload_n (nx := 59) dX8_copies_58 rfl rfl rfl ?_
            refine X_if_eq (tgt := 68) (nx := 62) dX8_copies_59 rfl rfl (fun h59 => ?_) (fun h59 => ?_)
            · skip
              refine X_iconst (v := nI 0) (nx := 69) dX8_copies_68 rfl rfl ?_
              refine X_istore (i := 4) (nx := 71) dX8_copies_69 rfl (by decide) rfl (st_s (st_s (st_s (st_s (st_0))))) ?_
              (unfold m_copies
               rw [if_pos c5, if_pos c12, k5, k12, if_neg (fun q => by first | exact n24 q.1 | exact Int32.not_lt.mpr q.2 h34), if_neg (by omega)]
               exact lp_X8_copies hw h hr (by omega) 4 0 D rfl (fun k hk => absurd hk (Nat.not_lt_zero _)) Fq.rf)
            · exact absurd h59 (by decide)
          · skip
            rw [nI_eq (by omega) (by omega)] at h48
            refine X_bipush (v := -6) (nx := 53) dX8_copies_51 rfl rfl ?_
            refine X_goto (tgt := 57) dX8_copies_53 rfl ?_
            refine X_istore_n (i := 3) (nx := 58) dX8_copies_57 rfl rfl (by decide) rfl (st_s (st_s (st_s (st_0)))) ?_
            refine X_iload_n (nx := 59) dX8_copies_58 rfl rfl rfl ?_
            refine X_if_eq (tgt := 68) (nx := 62) dX8_copies_59 rfl rfl (fun h59 => ?_) (fun h59 => ?_)
            · exact absurd h59 (by decide)
            · skip
              refine X_aload_n (nx := 63) dX8_copies_62 rfl rfl rfl ?_
              refine X_iload_n (nx := 64) dX8_copies_63 rfl rfl rfl ?_
              refine Y_Vi1 (nx := 67) dX8_copies_64 rfl ml_RX8_211 kj_X8_no kv_X8_no (by first | exact sp_X8_no (k := 1) rfl (by omega) (by omega) | exact sp_X8_no (k := 3) rfl (by omega) (by omega) | exact sp_X8_no (k := 6) rfl (by omega) (by omega)) (by first | assumption | rfl | decide | omega) (by first | assumption | rfl | decide | omega) (by decide) rfl (by first | decide | omega) (by exact Nat.le_of_ble_eq_true rfl) ?_
              exact Z_reti dX8_copies_67 (Or.inl rfl) (by
                unfold m_copies
                first
                | (rw [if_neg n5]; exact ck2_no (k := 1) h Fr.rf (by omega) (by omega))
                | (rw [if_pos c5, if_neg n12]; exact ck2_no (k := 1) h Fr.rf (by omega) (by omega))
                | (rw [if_pos c5, if_pos c12, k5, if_pos ⟨c24, Int32.not_lt.mp h34⟩]; exact ck2_no (k := 3) h Fr.rf (by omega) (by omega))
                | (rw [if_pos c5, if_pos c12, k5, if_neg (fun q => by first | exact n24 q.1 | exact Int32.not_lt.mpr q.2 h34), if_pos (by omega)]; exact ck2_no (k := 6) h Fr.rf (by omega) (by omega)))
        · skip
          refine X_bipush (v := -3) (nx := 39) dX8_copies_37 rfl rfl ?_
          refine X_goto (tgt := 57) dX8_copies_39 rfl ?_
          refine X_istore_n (i := 3) (nx := 58) dX8_copies_57 rfl rfl (by decide) rfl (st_s (st_s (st_s (st_0)))) ?_
          refine X_iload_n (nx := 59) dX8_copies_58 rfl rfl rfl ?_
          refine X_if_eq (tgt := 68) (nx := 62) dX8_copies_59 rfl rfl (fun h59 => ?_) (fun h59 => ?_)
          · exact absurd h59 (by decide)
          · skip
            refine X_aload_n (nx := 63) dX8_copies_62 rfl rfl rfl ?_
            refine X_iload_n (nx := 64) dX8_copies_63 rfl rfl rfl ?_
            refine Y_Vi1 (nx := 67) dX8_copies_64 rfl ml_RX8_211 kj_X8_no kv_X8_no (by first | exact sp_X8_no (k := 1) rfl (by omega) (by omega) | exact sp_X8_no (k := 3) rfl (by omega) (by omega) | exact sp_X8_no (k := 6) rfl (by omega) (by omega)) (by first | assumption | rfl | decide | omega) (by first | assumption | rfl | decide | omega) (by decide) rfl (by first | decide | omega) (by exact Nat.le_of_ble_eq_true rfl) ?_
            exact Z_reti dX8_copies_67 (Or.inl rfl) (by
              unfold m_copies
              first
              | (rw [if_neg n5]; exact ck2_no (k := 1) h Fr.rf (by omega) (by omega))
              | (rw [if_pos c5, if_neg n12]; exact ck2_no (k := 1) h Fr.rf (by omega) (by omega))
              | (rw [if_pos c5, if_pos c12, k5, if_pos ⟨c24, Int32.not_lt.mp h34⟩]; exact ck2_no (k := 3) h Fr.rf (by omega) (by omega))
              | (rw [if_pos c5, if_pos c12, k5, if_neg (fun q => by first | exact n24 q.1 | exact Int32.not_lt.mpr q.2 h34), if_pos (by omega)]; exact ck2_no (k := 6) h Fr.rf (by omega) (by omega)))
    · skip
      have n12 := nb h12
      refine X_iconst (v := -1) (nx := 16) dX8_copies_15 rfl rfl ?_
      refine X_goto (tgt := 57) dX8_copies_16 rfl ?_
      refine X_istore_n (i := 3) (nx := 58) dX8_copies_57 rfl rfl (by decide) rfl (st_s (st_s (st_s (st_0)))) ?_
      refine X_iload_n (nx := 59) dX8_copies_58 rfl rfl rfl ?_
      refine X_if_eq (tgt := 68) (nx := 62) dX8_copies_59 rfl rfl (fun h59 => ?_) (fun h59 => ?_)
      · exact absurd h59 (by decide)
      · skip
        refine X_aload_n (nx := 63) dX8_copies_62 rfl rfl rfl ?_
        refine X_iload_n (nx := 64) dX8_copies_63 rfl rfl rfl ?_
        refine Y_Vi1 (nx := 67) dX8_copies_64 rfl ml_RX8_211 kj_X8_no kv_X8_no (by first | exact sp_X8_no (k := 1) rfl (by omega) (by omega) | exact sp_X8_no (k := 3) rfl (by omega) (by omega) | exact sp_X8_no (k := 6) rfl (by omega) (by omega)) (by first | assumption | rfl | decide | omega) (by first | assumption | rfl | decide | omega) (by decide) rfl (by first | decide | omega) (by exact Nat.le_of_ble_eq_true rfl) ?_
        exact Z_reti dX8_copies_67 (Or.inl rfl) (by
          unfold m_copies
          first
          | (rw [if_neg n5]; exact ck2_no (k := 1) h Fr.rf (by omega) (by omega))
          | (rw [if_pos c5, if_neg n12]; exact ck2_no (k := 1) h Fr.rf (by omega) (by omega))
          | (rw [if_pos c5, if_pos c12, k5, if_pos ⟨c24, Int32.not_lt.mp h34⟩]; exact ck2_no (k := 3) h Fr.rf (by omega) (by omega))
          | (rw [if_pos c5, if_pos c12, k5, if_neg (fun q => by first | exact n24 q.1 | exact Int32.not_lt.mpr q.2 h34), if_pos (by omega)]; exact ck2_no (k := 6) h Fr.rf (by omega) (by omega)))
def PK (a L c : Nat) (D D' : Mem) : Prop := (∀ k, k < L → D' 132 (c + k) = D a k) ∧ Fq (fun b i => (b = 104 ∧ i = 41) ∨ (b = 132 ∧ c ≤ i ∧ i < c + L)) D D' ∧ D' 104 41 = nI (c + L)
def PR (a L c : Nat) (D D' : Mem) : Prop := (∀ k, k < L → D' a k = D 132 (c + k)) ∧ Fq (fun b i => (b = 104 ∧ i = 41) ∨ b = a) D D' ∧ D' 104 41 = nI (c + L)
theorem dX8_passes_0 : decode cX8_passes 0 = .ok (.iconst 0, 1) := by decide +kernel
theorem dX8_passes_1 : decode cX8_passes 1 = .ok (.istore_n 2, 1) := by decide +kernel
theorem dX8_passes_2 : decode cX8_passes 2 = .ok (.iload_n 2, 1) := by decide +kernel
theorem dX8_passes_3 : decode cX8_passes 3 = .ok (.aload_n 1, 1) := by decide +kernel
theorem dX8_passes_4 : decode cX8_passes 4 = .ok (.arraylength, 1) := by decide +kernel
theorem dX8_passes_5 : decode cX8_passes 5 = .ok (.if_icmp .ge 53, 3) := by decide +kernel
theorem dX8_passes_8 : decode cX8_passes 8 = .ok (.aload_n 0, 1) := by decide +kernel
theorem dX8_passes_9 : decode cX8_passes 9 = .ok (.getfield 276, 3) := by decide +kernel
theorem dX8_passes_12 : decode cX8_passes 12 = .ok (.ifCond .eq 18, 3) := by decide +kernel
theorem dX8_passes_15 : decode cX8_passes 15 = .ok (.aload_n 0, 1) := by decide +kernel
theorem dX8_passes_16 : decode cX8_passes 16 = .ok (.getfield 91, 3) := by decide +kernel
theorem dX8_passes_19 : decode cX8_passes 19 = .ok (.aload_n 0, 1) := by decide +kernel
theorem dX8_passes_20 : decode cX8_passes 20 = .ok (.getfield 280, 3) := by decide +kernel
theorem dX8_passes_23 : decode cX8_passes 23 = .ok (.aload_n 1, 1) := by decide +kernel
theorem dX8_passes_24 : decode cX8_passes 24 = .ok (.iload_n 2, 1) := by decide +kernel
theorem dX8_passes_25 : decode cX8_passes 25 = .ok (.iaload, 1) := by decide +kernel
theorem dX8_passes_26 : decode cX8_passes 26 = .ok (.iastore, 1) := by decide +kernel
theorem dX8_passes_27 : decode cX8_passes 27 = .ok (.goto 15, 3) := by decide +kernel
theorem dX8_passes_30 : decode cX8_passes 30 = .ok (.aload_n 1, 1) := by decide +kernel
theorem dX8_passes_31 : decode cX8_passes 31 = .ok (.iload_n 2, 1) := by decide +kernel
theorem dX8_passes_32 : decode cX8_passes 32 = .ok (.aload_n 0, 1) := by decide +kernel
theorem dX8_passes_33 : decode cX8_passes 33 = .ok (.getfield 91, 3) := by decide +kernel
theorem dX8_passes_36 : decode cX8_passes 36 = .ok (.aload_n 0, 1) := by decide +kernel
theorem dX8_passes_37 : decode cX8_passes 37 = .ok (.getfield 280, 3) := by decide +kernel
theorem dX8_passes_40 : decode cX8_passes 40 = .ok (.iaload, 1) := by decide +kernel
theorem dX8_passes_41 : decode cX8_passes 41 = .ok (.iastore, 1) := by decide +kernel
theorem dX8_passes_42 : decode cX8_passes 42 = .ok (.aload_n 0, 1) := by decide +kernel
theorem dX8_passes_43 : decode cX8_passes 43 = .ok (.dup, 1) := by decide +kernel
theorem dX8_passes_44 : decode cX8_passes 44 = .ok (.getfield 280, 3) := by decide +kernel
theorem dX8_passes_47 : decode cX8_passes 47 = .ok (.iconst 1, 1) := by decide +kernel
theorem dX8_passes_48 : decode cX8_passes 48 = .ok (.iadd, 1) := by decide +kernel
theorem dX8_passes_49 : decode cX8_passes 49 = .ok (.putfield 280, 3) := by decide +kernel
theorem dX8_passes_52 : decode cX8_passes 52 = .ok (.iinc 2 1, 3) := by decide +kernel
theorem dX8_passes_55 : decode cX8_passes 55 = .ok (.goto (-53), 3) := by decide +kernel
theorem dX8_passes_58 : decode cX8_passes 58 = .ok (.return_, 1) := by decide +kernel
theorem lp_passes_k {a L c : Nat} {D : Mem} (ha : 106 ≤ a ∧ a ≤ 113) (hc8 : (lay a).1 = 8) (hL : (lay a).2 = L) (hcL : c + L ≤ 200) : ∀ (m : Nat) (i : Nat) (D1 : Mem), i + m = L → D1 104 40 = 1 → PK a i c D D1 → X 1 138 j_X8_passes 2 [some (.ref 104), some (.ref a), some (.int (nI i))] [] (138, P0, D1) (fun x σ => ∃ (D' : Mem), x = [] ∧ σ = wd D' ∧ (PK a L c D D')) := by
  intro m
  induction m with
  | zero =>
    intro i D1 hi h40 hp
    refine X_iload_n (nx := 3) dX8_passes_2 rfl rfl rfl ?_
    refine X_aload_n (nx := 4) dX8_passes_3 rfl rfl rfl ?_
    refine M_alen (nx := 5) dX8_passes_4 rfl (by omega) (Or.inl hc8) ?_
    refine X_top (congrArg nI hL) ?_
    refine X_icmp_ge (tgt := 58) (nx := 8) dX8_passes_5 rfl rfl (fun h5 => ?_) (fun h5 => ?_)
    · skip
      exact Z_retv dX8_passes_58 rfl (by obtain rfl : i = L := (by omega); exact hp)
    · exact absurd h5 (fun q => q (nI_le (by omega) (by omega)))
  | succ m ih =>
    intro i D1 hi h40 hp
    refine X_iload_n (nx := 3) dX8_passes_2 rfl rfl rfl ?_
    refine X_aload_n (nx := 4) dX8_passes_3 rfl rfl rfl ?_
    refine M_alen (nx := 5) dX8_passes_4 rfl (by omega) (Or.inl hc8) ?_
    refine X_top (congrArg nI hL) ?_
    refine X_icmp_ge (tgt := 58) (nx := 8) dX8_passes_5 rfl rfl (fun h5 => ?_) (fun h5 => ?_)
    · exact absurd h5 (nI_ge (by omega) (by omega))
    · skip
      refine X_aload_n (nx := 9) dX8_passes_8 rfl rfl rfl ?_
      refine M_getI (nx := 12) dX8_passes_9 rfl fl_RX8_276 rfl (by first | assumption | rfl | decide | omega) (by first | assumption | rfl | decide | omega) ?_
      refine X_top (h40) ?_
      refine X_if_eq (tgt := 30) (nx := 15) dX8_passes_12 rfl rfl (fun h12 => ?_) (fun h12 => ?_)
      · exact absurd h12 (by decide)
      · skip
        refine X_aload_n (nx := 16) dX8_passes_15 rfl rfl rfl ?_
        refine M_getP (nx := 19) dX8_passes_16 rfl fl_RX8_91 rfl (by first | assumption | rfl | decide | omega) (by first | assumption | rfl | decide | omega) (by first | assumption | rfl | decide | omega) ?_
        refine X_aload_n (nx := 20) dX8_passes_19 rfl rfl rfl ?_
        refine M_getI (nx := 23) dX8_passes_20 rfl fl_RX8_280 rfl (by first | assumption | rfl | decide | omega) (by first | assumption | rfl | decide | omega) ?_
        refine X_top (hp.2.2) ?_
        refine X_aload_n (nx := 24) dX8_passes_23 rfl rfl rfl ?_
        refine X_iload_n (nx := 25) dX8_passes_24 rfl rfl rfl ?_
        refine M_ld (a := a) (L := L) (nx := 26) dX8_passes_25 rfl (by omega) hc8 hL (by omega) (by omega) rfl ?_
        refine M_st (a := 132) (L := 200) (nx := 27) dX8_passes_26 rfl (by decide) (by decide) rfl (by decide) (by omega) ?_
        refine X_goto (tgt := 42) dX8_passes_27 rfl ?_
        refine X_aload_n (nx := 43) dX8_passes_42 rfl rfl rfl ?_
        refine X_dup (nx := 44) dX8_passes_43 rfl rfl ?_
        refine M_getI (nx := 47) dX8_passes_44 rfl fl_RX8_280 rfl (by first | assumption | rfl | decide | omega) (by first | assumption | rfl | decide | omega) ?_
        refine X_top ((up2_other (by omega)).trans hp.2.2) ?_
        refine X_iconst (v := 1) (nx := 48) dX8_passes_47 rfl rfl ?_
        refine X_iadd (nx := 49) dX8_passes_48 rfl ?_
        refine X_top (nI_1 _) ?_
        refine M_putI (nx := 52) dX8_passes_49 rfl fl_RX8_280 rfl rfl (by first | assumption | rfl | decide | omega) (by first | assumption | rfl | decide | omega) ?_
        refine X_iinc (nx := 55) dX8_passes_52 rfl (by decide) rfl (by first | exact ii1 _ | rfl) rfl (st_s (st_s (st_0))) ?_
        refine X_goto (tgt := 2) dX8_passes_55 rfl ?_
        refine ih (i + 1) _ (by omega) (by rw [up2_other (by omega), up2_other (by omega)]; exact h40) ⟨fun k hk => ?_, (hp.2.1.mono (fun b j q => by omega)).tr ((Fq.up (by omega)).tr (Fq.up (by omega))), up2_same⟩
        rw [up2_other (by omega)]
        by_cases e : k = i
        · subst e; rw [up2_same]; exact hp.2.1 a k (by omega)
        · rw [up2_other (by omega)]; exact hp.1 k (by omega)
theorem lp_passes_r {a L c : Nat} {D : Mem} (ha : 106 ≤ a ∧ a ≤ 113) (hc8 : (lay a).1 = 8) (hL : (lay a).2 = L) (hcL : c + L ≤ 200) : ∀ (m : Nat) (i : Nat) (D1 : Mem), i + m = L → D1 104 40 = 0 → PR a i c D D1 → X 1 138 j_X8_passes 2 [some (.ref 104), some (.ref a), some (.int (nI i))] [] (138, P0, D1) (fun x σ => ∃ (D' : Mem), x = [] ∧ σ = wd D' ∧ (PR a L c D D')) := by
  intro m
  induction m with
  | zero =>
    intro i D1 hi h40 hp
    refine X_iload_n (nx := 3) dX8_passes_2 rfl rfl rfl ?_
    refine X_aload_n (nx := 4) dX8_passes_3 rfl rfl rfl ?_
    refine M_alen (nx := 5) dX8_passes_4 rfl (by omega) (Or.inl hc8) ?_
    refine X_top (congrArg nI hL) ?_
    refine X_icmp_ge (tgt := 58) (nx := 8) dX8_passes_5 rfl rfl (fun h5 => ?_) (fun h5 => ?_)
    · skip
      exact Z_retv dX8_passes_58 rfl (by obtain rfl : i = L := (by omega); exact hp)
    · exact absurd h5 (fun q => q (nI_le (by omega) (by omega)))
  | succ m ih =>
    intro i D1 hi h40 hp
    refine X_iload_n (nx := 3) dX8_passes_2 rfl rfl rfl ?_
    refine X_aload_n (nx := 4) dX8_passes_3 rfl rfl rfl ?_
    refine M_alen (nx := 5) dX8_passes_4 rfl (by omega) (Or.inl hc8) ?_
    refine X_top (congrArg nI hL) ?_
    refine X_icmp_ge (tgt := 58) (nx := 8) dX8_passes_5 rfl rfl (fun h5 => ?_) (fun h5 => ?_)
    · exact absurd h5 (nI_ge (by omega) (by omega))
    · skip
      refine X_aload_n (nx := 9) dX8_passes_8 rfl rfl rfl ?_
      refine M_getI (nx := 12) dX8_passes_9 rfl fl_RX8_276 rfl (by first | assumption | rfl | decide | omega) (by first | assumption | rfl | decide | omega) ?_
      refine X_top (h40) ?_
      refine X_if_eq (tgt := 30) (nx := 15) dX8_passes_12 rfl rfl (fun h12 => ?_) (fun h12 => ?_)
      · skip
        refine X_aload_n (nx := 31) dX8_passes_30 rfl rfl rfl ?_
        refine X_iload_n (nx := 32) dX8_passes_31 rfl rfl rfl ?_
        refine X_aload_n (nx := 33) dX8_passes_32 rfl rfl rfl ?_
        refine M_getP (nx := 36) dX8_passes_33 rfl fl_RX8_91 rfl (by first | assumption | rfl | decide | omega) (by first | assumption | rfl | decide | omega) (by first | assumption | rfl | decide | omega) ?_
        refine X_aload_n (nx := 37) dX8_passes_36 rfl rfl rfl ?_
        refine M_getI (nx := 40) dX8_passes_37 rfl fl_RX8_280 rfl (by first | assumption | rfl | decide | omega) (by first | assumption | rfl | decide | omega) ?_
        refine X_top (hp.2.2) ?_
        refine M_ld (a := 132) (L := 200) (nx := 41) dX8_passes_40 rfl (by decide) (by decide) rfl (by decide) (by omega) (rfl) ?_
        refine M_st (a := a) (L := L) (nx := 42) dX8_passes_41 rfl (by omega) hc8 hL (by omega) (by omega) ?_
        refine X_aload_n (nx := 43) dX8_passes_42 rfl rfl rfl ?_
        refine X_dup (nx := 44) dX8_passes_43 rfl rfl ?_
        refine M_getI (nx := 47) dX8_passes_44 rfl fl_RX8_280 rfl (by first | assumption | rfl | decide | omega) (by first | assumption | rfl | decide | omega) ?_
        refine X_top ((up2_other (by omega)).trans hp.2.2) ?_
        refine X_iconst (v := 1) (nx := 48) dX8_passes_47 rfl rfl ?_
        refine X_iadd (nx := 49) dX8_passes_48 rfl ?_
        refine X_top (nI_1 _) ?_
        refine M_putI (nx := 52) dX8_passes_49 rfl fl_RX8_280 rfl rfl (by first | assumption | rfl | decide | omega) (by first | assumption | rfl | decide | omega) ?_
        refine X_iinc (nx := 55) dX8_passes_52 rfl (by decide) rfl (by first | exact ii1 _ | rfl) rfl (st_s (st_s (st_0))) ?_
        refine X_goto (tgt := 2) dX8_passes_55 rfl ?_
        refine ih (i + 1) _ (by omega) (by rw [up2_other (by omega), up2_other (by omega)]; exact h40) ⟨fun k hk => ?_, (hp.2.1.mono (fun b j q => by omega)).tr ((Fq.up (by omega)).tr (Fq.up (by omega))), up2_same⟩
        rw [up2_other (by omega)]
        by_cases e : k = i
        · subst e; rw [up2_same]; exact hp.2.1 132 _ (by omega)
        · rw [up2_other (by omega)]; exact hp.1 k (by omega)
      · exact absurd h12 (by decide)
theorem sp_passes_k {a L c : Nat} {D : Mem} (ha : 106 ≤ a ∧ a ≤ 113) (hc8 : (lay a).1 = 8) (hL : (lay a).2 = L) (hcL : c + L ≤ 200) (h40 : D 104 40 = 1) (h41 : D 104 41 = nI c) : Rvx 1 j_X8_passes [.ref 104, .ref a] D (fun D' => PK a L c D D') := by
  refine E.start 1 (ls := [some (.ref 104), some (.ref a), none]) (by decide +kernel) (Nat.le_of_ble_eq_true rfl) rfl (Nat.le_refl _) (Nat.le_refl _) ?_
  refine X_iconst (v := nI 0) (nx := 1) dX8_passes_0 rfl rfl ?_
  refine X_istore_n (i := 2) (nx := 2) dX8_passes_1 rfl rfl (by decide) rfl (st_s (st_s (st_0))) ?_
  exact lp_passes_k ha hc8 hL hcL L 0 D (Nat.zero_add _) h40 ⟨fun k hk => absurd hk (Nat.not_lt_zero _), Fq.rf, h41⟩
theorem sp_passes_r {a L c : Nat} {D : Mem} (ha : 106 ≤ a ∧ a ≤ 113) (hc8 : (lay a).1 = 8) (hL : (lay a).2 = L) (hcL : c + L ≤ 200) (h40 : D 104 40 = 0) (h41 : D 104 41 = nI c) : Rvx 1 j_X8_passes [.ref 104, .ref a] D (fun D' => PR a L c D D') := by
  refine E.start 1 (ls := [some (.ref 104), some (.ref a), none]) (by decide +kernel) (Nat.le_of_ble_eq_true rfl) rfl (Nat.le_refl _) (Nat.le_refl _) ?_
  refine X_iconst (v := nI 0) (nx := 1) dX8_passes_0 rfl rfl ?_
  refine X_istore_n (i := 2) (nx := 2) dX8_passes_1 rfl rfl (by decide) rfl (st_s (st_s (st_0))) ?_
  exact lp_passes_r ha hc8 hL hcL L 0 D (Nat.zero_add _) h40 ⟨fun k hk => absurd hk (Nat.not_lt_zero _), Fq.rf, h41⟩
