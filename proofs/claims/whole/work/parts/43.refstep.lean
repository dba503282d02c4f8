/-! THE REFERENCE: frames of the pile -/
def SPU (t b i : Nat) : Prop := (b = 104 ∧ (i = 21 ∨ i = 22)) ∨ (115 ≤ b ∧ b ≤ 123 ∧ i = t)
/-- a frame is put on top -/
def PSH (D D' : Mem) (t : Nat) (x1 x2 x3 x4 x5 x6 x7 : Int32) (s : Nat) : Prop :=
  D' 104 21 = nI t ∧ D' 104 22 = D 104 22 + 1 ∧ D' 115 t = x1 ∧ D' 116 t = x2 ∧ D' 117 t = x3 ∧ D' 118 t = x4 ∧ D' 119 t = x5 ∧ D' 122 t = x6 ∧ D' 123 t = x7 ∧ D' 121 t = 0 ∧ D' 120 t = nI s ∧ Fq (SPU t) D D'
def s0_ (K F : Nat → Nat) (R l a : Nat) : Nat := if K R = 5 ∧ F R < l - a then 7 else 0
def FRM (D : Mem) (t R dp w a root s m : Nat) (via : Int32) (c : Bool) : Prop := D 115 t = nI R ∧ D 116 t = nI dp ∧ D 117 t = nI w ∧ D 118 t = nI a ∧ D 119 t = nI root ∧ D 120 t = nI s ∧ D 121 t = nI m ∧ D 122 t = via ∧ D 123 t = b2i c
theorem SPU.scr {t b i : Nat} (h : SPU t b i) : SCR b i := by unfold SPU at h; unfold SCR; omega
def lkD (D : Mem) (t : Nat) (x1 x2 x3 x4 x5 x6 x7 : Int32) : Mem := up2 (up2 (up2 (up2 (up2 (up2 (up2 (up2 (up2 (up2 D 104 22 (D 104 22 + 1)) 104 21 (nI t)) 115 t x1) 116 t x2) 117 t x3) 118 t x4) 119 t x5) 122 t x6) 123 t x7) 121 t 0
theorem lkD_top {D : Mem} {t : Nat} {x1 x2 x3 x4 x5 x6 x7 : Int32} : lkD D t x1 x2 x3 x4 x5 x6 x7 104 21 = nI t := by simp [lkD, up2]
theorem lkD_fq {D : Mem} {t : Nat} {x1 x2 x3 x4 x5 x6 x7 : Int32} : Fq (SPU t) D (lkD D t x1 x2 x3 x4 x5 x6 x7) := by
  unfold lkD
  refine Fq.up' (Fq.up' (Fq.up' (Fq.up' (Fq.up' (Fq.up' (Fq.up' (Fq.up' (Fq.up' (Fq.up' Fq.rf ?_) ?_) ?_) ?_) ?_) ?_) ?_) ?_) ?_) ?_ <;> (unfold SPU; omega)
theorem lkD_psh {D : Mem} {t s : Nat} {x1 x2 x3 x4 x5 x6 x7 : Int32} : PSH D (up2 (lkD D t x1 x2 x3 x4 x5 x6 x7) 120 t (nI s)) t x1 x2 x3 x4 x5 x6 x7 s := by
  refine ⟨?_, ?_, ?_, ?_, ?_, ?_, ?_, ?_, ?_, ?_, up2_same, Fq.up' lkD_fq (by unfold SPU; omega)⟩ <;> simp [lkD, up2]
theorem dX8_looksAt_0 : decode cX8_looksAt 0 = .ok (.aload_n 0, 1) := by decide +kernel
theorem dX8_looksAt_1 : decode cX8_looksAt 1 = .ok (.dup, 1) := by decide +kernel
theorem dX8_looksAt_2 : decode cX8_looksAt 2 = .ok (.getfield 137, 3) := by decide +kernel
theorem dX8_looksAt_5 : decode cX8_looksAt 5 = .ok (.iconst 1, 1) := by decide +kernel
theorem dX8_looksAt_6 : decode cX8_looksAt 6 = .ok (.iadd, 1) := by decide +kernel
theorem dX8_looksAt_7 : decode cX8_looksAt 7 = .ok (.putfield 137, 3) := by decide +kernel
theorem dX8_looksAt_10 : decode cX8_looksAt 10 = .ok (.aload_n 0, 1) := by decide +kernel
theorem dX8_looksAt_11 : decode cX8_looksAt 11 = .ok (.dup, 1) := by decide +kernel
theorem dX8_looksAt_12 : decode cX8_looksAt 12 = .ok (.getfield 140, 3) := by decide +kernel
theorem dX8_looksAt_15 : decode cX8_looksAt 15 = .ok (.iconst 1, 1) := by decide +kernel
theorem dX8_looksAt_16 : decode cX8_looksAt 16 = .ok (.iadd, 1) := by decide +kernel
theorem dX8_looksAt_17 : decode cX8_looksAt 17 = .ok (.putfield 140, 3) := by decide +kernel
theorem dX8_looksAt_20 : decode cX8_looksAt 20 = .ok (.aload_n 0, 1) := by decide +kernel
theorem dX8_looksAt_21 : decode cX8_looksAt 21 = .ok (.getfield 40, 3) := by decide +kernel
theorem dX8_looksAt_24 : decode cX8_looksAt 24 = .ok (.aload_n 0, 1) := by decide +kernel
theorem dX8_looksAt_25 : decode cX8_looksAt 25 = .ok (.getfield 140, 3) := by decide +kernel
theorem dX8_looksAt_28 : decode cX8_looksAt 28 = .ok (.iload_n 1, 1) := by decide +kernel
theorem dX8_looksAt_29 : decode cX8_looksAt 29 = .ok (.iastore, 1) := by decide +kernel
theorem dX8_looksAt_30 : decode cX8_looksAt 30 = .ok (.aload_n 0, 1) := by decide +kernel
theorem dX8_looksAt_31 : decode cX8_looksAt 31 = .ok (.getfield 43, 3) := by decide +kernel
theorem dX8_looksAt_34 : decode cX8_looksAt 34 = .ok (.aload_n 0, 1) := by decide +kernel
theorem dX8_looksAt_35 : decode cX8_looksAt 35 = .ok (.getfield 140, 3) := by decide +kernel
theorem dX8_looksAt_38 : decode cX8_looksAt 38 = .ok (.iload_n 2, 1) := by decide +kernel
theorem dX8_looksAt_39 : decode cX8_looksAt 39 = .ok (.iastore, 1) := by decide +kernel
theorem dX8_looksAt_40 : decode cX8_looksAt 40 = .ok (.aload_n 0, 1) := by decide +kernel
theorem dX8_looksAt_41 : decode cX8_looksAt 41 = .ok (.getfield 46, 3) := by decide +kernel
theorem dX8_looksAt_44 : decode cX8_looksAt 44 = .ok (.aload_n 0, 1) := by decide +kernel
theorem dX8_looksAt_45 : decode cX8_looksAt 45 = .ok (.getfield 140, 3) := by decide +kernel
theorem dX8_looksAt_48 : decode cX8_looksAt 48 = .ok (.iload_n 3, 1) := by decide +kernel
theorem dX8_looksAt_49 : decode cX8_looksAt 49 = .ok (.iastore, 1) := by decide +kernel
theorem dX8_looksAt_50 : decode cX8_looksAt 50 = .ok (.aload_n 0, 1) := by decide +kernel
theorem dX8_looksAt_51 : decode cX8_looksAt 51 = .ok (.getfield 49, 3) := by decide +kernel
theorem dX8_looksAt_54 : decode cX8_looksAt 54 = .ok (.aload_n 0, 1) := by decide +kernel
theorem dX8_looksAt_55 : decode cX8_looksAt 55 = .ok (.getfield 140, 3) := by decide +kernel
theorem dX8_looksAt_58 : decode cX8_looksAt 58 = .ok (.iload 4, 2) := by decide +kernel
theorem dX8_looksAt_60 : decode cX8_looksAt 60 = .ok (.iastore, 1) := by decide +kernel
theorem dX8_looksAt_61 : decode cX8_looksAt 61 = .ok (.aload_n 0, 1) := by decide +kernel
theorem dX8_looksAt_62 : decode cX8_looksAt 62 = .ok (.getfield 52, 3) := by decide +kernel
theorem dX8_looksAt_65 : decode cX8_looksAt 65 = .ok (.aload_n 0, 1) := by decide +kernel
theorem dX8_looksAt_66 : decode cX8_looksAt 66 = .ok (.getfield 140, 3) := by decide +kernel
theorem dX8_looksAt_69 : decode cX8_looksAt 69 = .ok (.iload 5, 2) := by decide +kernel
theorem dX8_looksAt_71 : decode cX8_looksAt 71 = .ok (.iastore, 1) := by decide +kernel
theorem dX8_looksAt_72 : decode cX8_looksAt 72 = .ok (.aload_n 0, 1) := by decide +kernel
theorem dX8_looksAt_73 : decode cX8_looksAt 73 = .ok (.getfield 61, 3) := by decide +kernel
theorem dX8_looksAt_76 : decode cX8_looksAt 76 = .ok (.aload_n 0, 1) := by decide +kernel
theorem dX8_looksAt_77 : decode cX8_looksAt 77 = .ok (.getfield 140, 3) := by decide +kernel
theorem dX8_looksAt_80 : decode cX8_looksAt 80 = .ok (.iload 6, 2) := by decide +kernel
theorem dX8_looksAt_82 : decode cX8_looksAt 82 = .ok (.iastore, 1) := by decide +kernel
theorem dX8_looksAt_83 : decode cX8_looksAt 83 = .ok (.aload_n 0, 1) := by decide +kernel
theorem dX8_looksAt_84 : decode cX8_looksAt 84 = .ok (.getfield 64, 3) := by decide +kernel
theorem dX8_looksAt_87 : decode cX8_looksAt 87 = .ok (.aload_n 0, 1) := by decide +kernel
theorem dX8_looksAt_88 : decode cX8_looksAt 88 = .ok (.getfield 140, 3) := by decide +kernel
theorem dX8_looksAt_91 : decode cX8_looksAt 91 = .ok (.iload 7, 2) := by decide +kernel
theorem dX8_looksAt_93 : decode cX8_looksAt 93 = .ok (.iastore, 1) := by decide +kernel
theorem dX8_looksAt_94 : decode cX8_looksAt 94 = .ok (.aload_n 0, 1) := by decide +kernel
theorem dX8_looksAt_95 : decode cX8_looksAt 95 = .ok (.getfield 58, 3) := by decide +kernel
theorem dX8_looksAt_98 : decode cX8_looksAt 98 = .ok (.aload_n 0, 1) := by decide +kernel
theorem dX8_looksAt_99 : decode cX8_looksAt 99 = .ok (.getfield 140, 3) := by decide +kernel
theorem dX8_looksAt_102 : decode cX8_looksAt 102 = .ok (.iconst 0, 1) := by decide +kernel
theorem dX8_looksAt_103 : decode cX8_looksAt 103 = .ok (.iastore, 1) := by decide +kernel
theorem dX8_looksAt_104 : decode cX8_looksAt 104 = .ok (.aload_n 0, 1) := by decide +kernel
theorem dX8_looksAt_105 : decode cX8_looksAt 105 = .ok (.getfield 55, 3) := by decide +kernel
theorem dX8_looksAt_108 : decode cX8_looksAt 108 = .ok (.aload_n 0, 1) := by decide +kernel
theorem dX8_looksAt_109 : decode cX8_looksAt 109 = .ok (.getfield 140, 3) := by decide +kernel
theorem dX8_looksAt_112 : decode cX8_looksAt 112 = .ok (.aload_n 0, 1) := by decide +kernel
theorem dX8_looksAt_113 : decode cX8_looksAt 113 = .ok (.getfield 13, 3) := by decide +kernel
theorem dX8_looksAt_116 : decode cX8_looksAt 116 = .ok (.iload_n 1, 1) := by decide +kernel
theorem dX8_looksAt_117 : decode cX8_looksAt 117 = .ok (.iaload, 1) := by decide +kernel
theorem dX8_looksAt_118 : decode cX8_looksAt 118 = .ok (.iconst 5, 1) := by decide +kernel
theorem dX8_looksAt_119 : decode cX8_looksAt 119 = .ok (.if_icmp .ne 24, 3) := by decide +kernel
theorem dX8_looksAt_122 : decode cX8_looksAt 122 = .ok (.aload_n 0, 1) := by decide +kernel
theorem dX8_looksAt_123 : decode cX8_looksAt 123 = .ok (.getfield 134, 3) := by decide +kernel
theorem dX8_looksAt_126 : decode cX8_looksAt 126 = .ok (.iload 4, 2) := by decide +kernel
theorem dX8_looksAt_128 : decode cX8_looksAt 128 = .ok (.isub, 1) := by decide +kernel
theorem dX8_looksAt_129 : decode cX8_looksAt 129 = .ok (.aload_n 0, 1) := by decide +kernel
theorem dX8_looksAt_130 : decode cX8_looksAt 130 = .ok (.getfield 16, 3) := by decide +kernel
theorem dX8_looksAt_133 : decode cX8_looksAt 133 = .ok (.iload_n 1, 1) := by decide +kernel
theorem dX8_looksAt_134 : decode cX8_looksAt 134 = .ok (.iaload, 1) := by decide +kernel
theorem dX8_looksAt_135 : decode cX8_looksAt 135 = .ok (.if_icmp .le 8, 3) := by decide +kernel
theorem dX8_looksAt_138 : decode cX8_looksAt 138 = .ok (.bipush 7, 2) := by decide +kernel
theorem dX8_looksAt_140 : decode cX8_looksAt 140 = .ok (.goto 4, 3) := by decide +kernel
theorem dX8_looksAt_143 : decode cX8_looksAt 143 = .ok (.iconst 0, 1) := by decide +kernel
theorem dX8_looksAt_144 : decode cX8_looksAt 144 = .ok (.iastore, 1) := by decide +kernel
theorem dX8_looksAt_145 : decode cX8_looksAt 145 = .ok (.return_, 1) := by decide +kernel
theorem sp_X8_looksAt {R a : Nat} {L : List Nat} {t : Nat} {x1 x2 x3 x4 x5 x6 x7 : Int32} {B : Bk} {T : Nat → Bool} {K F : Nat → Nat} {D : Mem} (h : RB D B T K F) (hV : VB B) (hK : ∀ i, i < 3 → K i ≤ 5 ∧ F i ≤ 9) (hL : LT D L) (htop : D 104 21 = nI t - 1) (ht : t < 16) (hx1 : x1 = nI R) (hR : R < 3) (hx4 : x4 = nI a) (ha : a ≤ L.length) : Rvx 1 j_X8_looksAt [.ref 104, .int x1, .int x2, .int x3, .int x4, .int x5, .int x6, .int x7] D (fun D' => PSH D D' t x1 x2 x3 x4 x5 x6 x7 (s0_ K F R L.length a)) := by
  refine E.start 0 (ls := [some (.ref 104), some (.int x1), some (.int x2), some (.int x3), some (.int x4), some (.int x5), some (.int x6), some (.int x7)]) (by decide +kernel) (Nat.le_of_ble_eq_true rfl) rfl (Nat.le_refl _) (Nat.le_refl _) ?_
  have hk5 := hK R hR
  have hL4 := hL.2.2.1
  have e21 : ∀ x : Int32, nI t - 1 + 1 = nI t := fun _ => by rw [Int32.sub_add_cancel]
  refine X_aload_n (nx := 1) dX8_looksAt_0 rfl rfl rfl ?_
  refine X_dup (nx := 2) dX8_looksAt_1 rfl rfl ?_
  refine M_getI (nx := 5) dX8_looksAt_2 rfl fl_RX8_137 rfl (by first | assumption | rfl | decide | omega) (by first | assumption | rfl | decide | omega) ?_
  refine X_top (rfl) ?_
  refine X_iconst (v := 1) (nx := 6) dX8_looksAt_5 rfl rfl ?_
  refine X_iadd (nx := 7) dX8_looksAt_6 rfl ?_
  refine M_putI (nx := 10) dX8_looksAt_7 rfl fl_RX8_137 rfl rfl (by first | assumption | rfl | decide | omega) (by first | assumption | rfl | decide | omega) ?_
  refine X_aload_n (nx := 11) dX8_looksAt_10 rfl rfl rfl ?_
  refine X_dup (nx := 12) dX8_looksAt_11 rfl rfl ?_
  refine M_getI (nx := 15) dX8_looksAt_12 rfl fl_RX8_140 rfl (by first | assumption | rfl | decide | omega) (by first | assumption | rfl | decide | omega) ?_
  refine X_top (show _ = nI t - 1 from (up2_other (by omega)).trans htop) ?_
  refine X_iconst (v := 1) (nx := 16) dX8_looksAt_15 rfl rfl ?_
  refine X_iadd (nx := 17) dX8_looksAt_16 rfl ?_
  refine X_top (e21 0) ?_
  refine M_putI (nx := 20) dX8_looksAt_17 rfl fl_RX8_140 rfl rfl (by first | assumption | rfl | decide | omega) (by first | assumption | rfl | decide | omega) ?_
  refine X_aload_n (nx := 21) dX8_looksAt_20 rfl rfl rfl ?_
  refine M_getP (nx := 24) dX8_looksAt_21 rfl fl_RX8_40 rfl (by first | assumption | rfl | decide | omega) (by first | assumption | rfl | decide | omega) (by first | assumption | rfl | decide | omega) ?_
  refine X_aload_n (nx := 25) dX8_looksAt_24 rfl rfl rfl ?_
  refine M_getI (nx := 28) dX8_looksAt_25 rfl fl_RX8_140 rfl (by first | assumption | rfl | decide | omega) (by first | assumption | rfl | decide | omega) ?_
  refine X_top (show _ = nI t from (by simp [up2])) ?_
  refine X_iload_n (nx := 29) dX8_looksAt_28 rfl rfl rfl ?_
  refine M_st (a := 115) (L := 16) (nx := 30) dX8_looksAt_29 rfl (by decide) (by decide) rfl (by decide) (by omega) ?_
  refine X_aload_n (nx := 31) dX8_looksAt_30 rfl rfl rfl ?_
  refine M_getP (nx := 34) dX8_looksAt_31 rfl fl_RX8_43 rfl (by first | assumption | rfl | decide | omega) (by first | assumption | rfl | decide | omega) (by first | assumption | rfl | decide | omega) ?_
  refine X_aload_n (nx := 35) dX8_looksAt_34 rfl rfl rfl ?_
  refine M_getI (nx := 38) dX8_looksAt_35 rfl fl_RX8_140 rfl (by first | assumption | rfl | decide | omega) (by first | assumption | rfl | decide | omega) ?_
  refine X_top (show _ = nI t from (by simp [up2])) ?_
  refine X_iload_n (nx := 39) dX8_looksAt_38 rfl rfl rfl ?_
  refine M_st (a := 116) (L := 16) (nx := 40) dX8_looksAt_39 rfl (by decide) (by decide) rfl (by decide) (by omega) ?_
  refine X_aload_n (nx := 41) dX8_looksAt_40 rfl rfl rfl ?_
  refine M_getP (nx := 44) dX8_looksAt_41 rfl fl_RX8_46 rfl (by first | assumption | rfl | decide | omega) (by first | assumption | rfl | decide | omega) (by first | assumption | rfl | decide | omega) ?_
  refine X_aload_n (nx := 45) dX8_looksAt_44 rfl rfl rfl ?_
  refine M_getI (nx := 48) dX8_looksAt_45 rfl fl_RX8_140 rfl (by first | assumption | rfl | decide | omega) (by first | assumption | rfl | decide | omega) ?_
  refine X_top (show _ = nI t from (by simp [up2])) ?_
  refine X_iload_n (nx := 49) dX8_looksAt_48 rfl rfl rfl ?_
  refine M_st (a := 117) (L := 16) (nx := 50) dX8_looksAt_49 rfl (by decide) (by decide) rfl (by decide) (by omega) ?_
  refine X_aload_n (nx := 51) dX8_looksAt_50 rfl rfl rfl ?_
  refine M_getP (nx := 54) dX8_looksAt_51 rfl fl_RX8_49 rfl (by first | assumption | rfl | decide | omega) (by first | assumption | rfl | decide | omega) (by first | assumption | rfl | decide | omega) ?_
  refine X_aload_n (nx := 55) dX8_looksAt_54 rfl rfl rfl ?_
  refine M_getI (nx := 58) dX8_looksAt_55 rfl fl_RX8_140 rfl (by first | assumption | rfl | decide | omega) (by first | assumption | rfl | decide | omega) ?_
  refine X_top (show _ = nI t from (by simp [up2])) ?_
  refine X_iload (nx := 60) dX8_looksAt_58 rfl rfl ?_
  refine M_st (a := 118) (L := 16) (nx := 61) dX8_looksAt_60 rfl (by decide) (by decide) rfl (by decide) (by omega) ?_
  refine X_aload_n (nx := 62) dX8_looksAt_61 rfl rfl rfl ?_
  refine M_getP (nx := 65) dX8_looksAt_62 rfl fl_RX8_52 rfl (by first | assumption | rfl | decide | omega) (by first | assumption | rfl | decide | omega) (by first | assumption | rfl | decide | omega) ?_
  refine X_aload_n (nx := 66) dX8_looksAt_65 rfl rfl rfl ?_
  refine M_getI (nx := 69) dX8_looksAt_66 rfl fl_RX8_140 rfl (by first | assumption | rfl | decide | omega) (by first | assumption | rfl | decide | omega) ?_
  refine X_top (show _ = nI t from (by simp [up2])) ?_
  refine X_iload (nx := 71) dX8_looksAt_69 rfl rfl ?_
  refine M_st (a := 119) (L := 16) (nx := 72) dX8_looksAt_71 rfl (by decide) (by decide) rfl (by decide) (by omega) ?_
  refine X_aload_n (nx := 73) dX8_looksAt_72 rfl rfl rfl ?_
  refine M_getP (nx := 76) dX8_looksAt_73 rfl fl_RX8_61 rfl (by first | assumption | rfl | decide | omega) (by first | assumption | rfl | decide | omega) (by first | assumption | rfl | decide | omega) ?_
  refine X_aload_n (nx := 77) dX8_looksAt_76 rfl rfl rfl ?_
  refine M_getI (nx := 80) dX8_looksAt_77 rfl fl_RX8_140 rfl (by first | assumption | rfl | decide | omega) (by first | assumption | rfl | decide | omega) ?_
  refine X_top (show _ = nI t from (by simp [up2])) ?_
  refine X_iload (nx := 82) dX8_looksAt_80 rfl rfl ?_
  refine M_st (a := 122) (L := 16) (nx := 83) dX8_looksAt_82 rfl (by decide) (by decide) rfl (by decide) (by omega) ?_
  refine X_aload_n (nx := 84) dX8_looksAt_83 rfl rfl rfl ?_
  refine M_getP (nx := 87) dX8_looksAt_84 rfl fl_RX8_64 rfl (by first | assumption | rfl | decide | omega) (by first | assumption | rfl | decide | omega) (by first | assumption | rfl | decide | omega) ?_
  refine X_aload_n (nx := 88) dX8_looksAt_87 rfl rfl rfl ?_
  refine M_getI (nx := 91) dX8_looksAt_88 rfl fl_RX8_140 rfl (by first | assumption | rfl | decide | omega) (by first | assumption | rfl | decide | omega) ?_
  refine X_top (show _ = nI t from (by simp [up2])) ?_
  refine X_iload (nx := 93) dX8_looksAt_91 rfl rfl ?_
  refine M_st (a := 123) (L := 16) (nx := 94) dX8_looksAt_93 rfl (by decide) (by decide) rfl (by decide) (by omega) ?_
  refine X_aload_n (nx := 95) dX8_looksAt_94 rfl rfl rfl ?_
  refine M_getP (nx := 98) dX8_looksAt_95 rfl fl_RX8_58 rfl (by first | assumption | rfl | decide | omega) (by first | assumption | rfl | decide | omega) (by first | assumption | rfl | decide | omega) ?_
  refine X_aload_n (nx := 99) dX8_looksAt_98 rfl rfl rfl ?_
  refine M_getI (nx := 102) dX8_looksAt_99 rfl fl_RX8_140 rfl (by first | assumption | rfl | decide | omega) (by first | assumption | rfl | decide | omega) ?_
  refine X_top (show _ = nI t from (by simp [up2])) ?_
  refine X_iconst (v := 0) (nx := 103) dX8_looksAt_102 rfl rfl ?_
  refine M_st (a := 121) (L := 16) (nx := 104) dX8_looksAt_103 rfl (by decide) (by decide) rfl (by decide) (by omega) ?_
  show X 1 138 j_X8_looksAt 104 _ [] (138, P0, lkD D t x1 x2 x3 x4 x5 x6 x7) _
  have hB9 := h.fq ((lkD_fq (D := D) (t := t) (x1 := x1) (x2 := x2) (x3 := x3) (x4 := x4) (x5 := x5) (x6 := x6) (x7 := x7)).mono (fun b i hb => hb.scr))
  subst hx1; subst hx4
  refine X_aload_n (nx := 105) dX8_looksAt_104 rfl rfl rfl ?_
  refine M_getP (nx := 108) dX8_looksAt_105 rfl fl_RX8_55 rfl (by first | assumption | rfl | decide | omega) (by first | assumption | rfl | decide | omega) (by first | assumption | rfl | decide | omega) ?_
  refine X_aload_n (nx := 109) dX8_looksAt_108 rfl rfl rfl ?_
  refine M_getI (nx := 112) dX8_looksAt_109 rfl fl_RX8_140 rfl (by first | assumption | rfl | decide | omega) (by first | assumption | rfl | decide | omega) ?_
  refine X_top (show _ = nI t from lkD_top) ?_
  refine X_aload_n (nx := 113) dX8_looksAt_112 rfl rfl rfl ?_
  refine M_getP (nx := 116) dX8_looksAt_113 rfl fl_RX8_13 rfl (by first | assumption | rfl | decide | omega) (by first | assumption | rfl | decide | omega) (by first | assumption | rfl | decide | omega) ?_
  refine X_iload_n (nx := 117) dX8_looksAt_116 rfl rfl rfl ?_
  refine M_ld (a := 106) (L := 3) (nx := 118) dX8_looksAt_117 rfl (by decide) (by decide) rfl (by decide) (by omega) ((hB9.1 R hR).1) ?_
  refine X_iconst (v := nI 5) (nx := 119) dX8_looksAt_118 rfl rfl ?_
  refine X_icmp_ne (tgt := 143) (nx := 122) dX8_looksAt_119 rfl rfl (fun h119 => ?_) (fun h119 => ?_)
  · skip
    rw [nI_eq (by omega) (by omega)] at h119
    refine X_iconst (v := nI 0) (nx := 144) dX8_looksAt_143 rfl rfl ?_
    first
    | (have e : s0_ K F R L.length a = 0 := if_neg (fun q => h119 q.1)
       rw [e]
       refine M_st (a := 120) (L := 16) (nx := 145) dX8_looksAt_144 rfl (by decide) (by decide) rfl (by decide) ht ?_
       exact Z_retv dX8_looksAt_145 rfl lkD_psh)
    | (have e : s0_ K F R L.length a = 0 := if_neg (fun q => by omega)
       rw [e]
       refine M_st (a := 120) (L := 16) (nx := 145) dX8_looksAt_144 rfl (by decide) (by decide) rfl (by decide) ht ?_
       exact Z_retv dX8_looksAt_145 rfl lkD_psh)
    | (have e : s0_ K F R L.length a = 7 := if_pos ⟨h119, by omega⟩
       rw [e]
       refine M_st (a := 120) (L := 16) (nx := 145) dX8_looksAt_144 rfl (by decide) (by decide) rfl (by decide) ht ?_
       exact Z_retv dX8_looksAt_145 rfl lkD_psh)
  · skip
    rw [nI_eq (by omega) (by omega)] at h119
    refine X_aload_n (nx := 123) dX8_looksAt_122 rfl rfl rfl ?_
    refine M_getI (nx := 126) dX8_looksAt_123 rfl fl_RX8_134 rfl (by first | assumption | rfl | decide | omega) (by first | assumption | rfl | decide | omega) ?_
    refine X_top (show _ = nI L.length from (lkD_fq 104 11 (by unfold SPU; omega)).trans hL.1) ?_
    refine X_iload (nx := 128) dX8_looksAt_126 rfl rfl ?_
    refine X_isub (nx := 129) dX8_looksAt_128 rfl ?_
    refine X_top (show _ = nI (L.length - a) from sub_nI ha) ?_
    refine X_aload_n (nx := 130) dX8_looksAt_129 rfl rfl rfl ?_
    refine M_getP (nx := 133) dX8_looksAt_130 rfl fl_RX8_16 rfl (by first | assumption | rfl | decide | omega) (by first | assumption | rfl | decide | omega) (by first | assumption | rfl | decide | omega) ?_
    refine X_iload_n (nx := 134) dX8_looksAt_133 rfl rfl rfl ?_
    refine M_ld (a := 107) (L := 3) (nx := 135) dX8_looksAt_134 rfl (by decide) (by decide) rfl (by decide) (by omega) ((hB9.1 R hR).2) ?_
    refine X_icmp_le (tgt := 143) (nx := 138) dX8_looksAt_135 rfl rfl (fun h135 => ?_) (fun h135 => ?_)
    · skip
      rw [nI_leI (by omega) (by omega)] at h135
      refine X_iconst (v := nI 0) (nx := 144) dX8_looksAt_143 rfl rfl ?_
      first
      | (have e : s0_ K F R L.length a = 0 := if_neg (fun q => h119 q.1)
         rw [e]
         refine M_st (a := 120) (L := 16) (nx := 145) dX8_looksAt_144 rfl (by decide) (by decide) rfl (by decide) ht ?_
         exact Z_retv dX8_looksAt_145 rfl lkD_psh)
      | (have e : s0_ K F R L.length a = 0 := if_neg (fun q => by omega)
         rw [e]
         refine M_st (a := 120) (L := 16) (nx := 145) dX8_looksAt_144 rfl (by decide) (by decide) rfl (by decide) ht ?_
         exact Z_retv dX8_looksAt_145 rfl lkD_psh)
      | (have e : s0_ K F R L.length a = 7 := if_pos ⟨h119, by omega⟩
         rw [e]
         refine M_st (a := 120) (L := 16) (nx := 145) dX8_looksAt_144 rfl (by decide) (by decide) rfl (by decide) ht ?_
         exact Z_retv dX8_looksAt_145 rfl lkD_psh)
    · skip
      rw [nI_leI (by omega) (by omega)] at h135
      refine X_bipush (v := nI 7) (nx := 140) dX8_looksAt_138 rfl rfl ?_
      refine X_goto (tgt := 144) dX8_looksAt_140 rfl ?_
      first
      | (have e : s0_ K F R L.length a = 0 := if_neg (fun q => h119 q.1)
         rw [e]
         refine M_st (a := 120) (L := 16) (nx := 145) dX8_looksAt_144 rfl (by decide) (by decide) rfl (by decide) ht ?_
         exact Z_retv dX8_looksAt_145 rfl lkD_psh)
      | (have e : s0_ K F R L.length a = 0 := if_neg (fun q => by omega)
         rw [e]
         refine M_st (a := 120) (L := 16) (nx := 145) dX8_looksAt_144 rfl (by decide) (by decide) rfl (by decide) ht ?_
         exact Z_retv dX8_looksAt_145 rfl lkD_psh)
      | (have e : s0_ K F R L.length a = 7 := if_pos ⟨h119, by omega⟩
         rw [e]
         refine M_st (a := 120) (L := 16) (nx := 145) dX8_looksAt_144 rfl (by decide) (by decide) rfl (by decide) ht ?_
         exact Z_retv dX8_looksAt_145 rfl lkD_psh)
def SBK (t b i : Nat) : Prop := (b = 104 ∧ i = 21) ∨ (b = 120 ∧ i + 1 = t)
def BKR (K : Nat → Nat) (D D' : Mem) (t : Nat) (c : Bool) (R : Nat) : Prop := D' 104 21 = nI t - 1 ∧ Fq (SBK t) D D' ∧ ∀ u, t = u + 1 → D' 120 u = if (c && (decide (K R = 4) || decide (K R = 5))) = true then 7 else D 120 u
theorem n1_lt {t : Nat} (ht : t < 16) (h : nI t - 1 < 0) : t = 0 := by
  cases t with
  | zero => rfl
  | succ t => rw [sub1] at h; exact absurd h (nI_neg (by omega))
theorem n1_ge {t : Nat} (h : ¬ nI t - 1 < 0) : ∃ u, t = u + 1 := by
  cases t with
  | zero => exact absurd m1_lt h
  | succ t => exact ⟨t, rfl⟩
theorem dX8_goesBack_0 : decode cX8_goesBack 0 = .ok (.aload_n 0, 1) := by decide +kernel
theorem dX8_goesBack_1 : decode cX8_goesBack 1 = .ok (.getfield 64, 3) := by decide +kernel
theorem dX8_goesBack_4 : decode cX8_goesBack 4 = .ok (.aload_n 0, 1) := by decide +kernel
theorem dX8_goesBack_5 : decode cX8_goesBack 5 = .ok (.getfield 140, 3) := by decide +kernel
theorem dX8_goesBack_8 : decode cX8_goesBack 8 = .ok (.iaload, 1) := by decide +kernel
theorem dX8_goesBack_9 : decode cX8_goesBack 9 = .ok (.iconst 1, 1) := by decide +kernel
theorem dX8_goesBack_10 : decode cX8_goesBack 10 = .ok (.if_icmp .ne 7, 3) := by decide +kernel
theorem dX8_goesBack_13 : decode cX8_goesBack 13 = .ok (.iconst 1, 1) := by decide +kernel
theorem dX8_goesBack_14 : decode cX8_goesBack 14 = .ok (.goto 4, 3) := by decide +kernel
theorem dX8_goesBack_17 : decode cX8_goesBack 17 = .ok (.iconst 0, 1) := by decide +kernel
theorem dX8_goesBack_18 : decode cX8_goesBack 18 = .ok (.istore_n 1, 1) := by decide +kernel
theorem dX8_goesBack_19 : decode cX8_goesBack 19 = .ok (.aload_n 0, 1) := by decide +kernel
theorem dX8_goesBack_20 : decode cX8_goesBack 20 = .ok (.dup, 1) := by decide +kernel
theorem dX8_goesBack_21 : decode cX8_goesBack 21 = .ok (.getfield 140, 3) := by decide +kernel
theorem dX8_goesBack_24 : decode cX8_goesBack 24 = .ok (.iconst 1, 1) := by decide +kernel
theorem dX8_goesBack_25 : decode cX8_goesBack 25 = .ok (.isub, 1) := by decide +kernel
theorem dX8_goesBack_26 : decode cX8_goesBack 26 = .ok (.putfield 140, 3) := by decide +kernel
theorem dX8_goesBack_29 : decode cX8_goesBack 29 = .ok (.aload_n 0, 1) := by decide +kernel
theorem dX8_goesBack_30 : decode cX8_goesBack 30 = .ok (.getfield 140, 3) := by decide +kernel
theorem dX8_goesBack_33 : decode cX8_goesBack 33 = .ok (.ifCond .lt 34, 3) := by decide +kernel
theorem dX8_goesBack_36 : decode cX8_goesBack 36 = .ok (.iload_n 1, 1) := by decide +kernel
theorem dX8_goesBack_37 : decode cX8_goesBack 37 = .ok (.ifCond .eq 30, 3) := by decide +kernel
theorem dX8_goesBack_40 : decode cX8_goesBack 40 = .ok (.aload_n 0, 1) := by decide +kernel
theorem dX8_goesBack_41 : decode cX8_goesBack 41 = .ok (.aload_n 0, 1) := by decide +kernel
theorem dX8_goesBack_42 : decode cX8_goesBack 42 = .ok (.getfield 40, 3) := by decide +kernel
theorem dX8_goesBack_45 : decode cX8_goesBack 45 = .ok (.aload_n 0, 1) := by decide +kernel
theorem dX8_goesBack_46 : decode cX8_goesBack 46 = .ok (.getfield 140, 3) := by decide +kernel
theorem dX8_goesBack_49 : decode cX8_goesBack 49 = .ok (.iaload, 1) := by decide +kernel
theorem dX8_goesBack_50 : decode cX8_goesBack 50 = .ok (.invokevirtual 167, 3) := by decide +kernel
theorem dX8_goesBack_53 : decode cX8_goesBack 53 = .ok (.ifCond .eq 14, 3) := by decide +kernel
theorem dX8_goesBack_56 : decode cX8_goesBack 56 = .ok (.aload_n 0, 1) := by decide +kernel
theorem dX8_goesBack_57 : decode cX8_goesBack 57 = .ok (.getfield 55, 3) := by decide +kernel
theorem dX8_goesBack_60 : decode cX8_goesBack 60 = .ok (.aload_n 0, 1) := by decide +kernel
theorem dX8_goesBack_61 : decode cX8_goesBack 61 = .ok (.getfield 140, 3) := by decide +kernel
theorem dX8_goesBack_64 : decode cX8_goesBack 64 = .ok (.bipush 7, 2) := by decide +kernel
theorem dX8_goesBack_66 : decode cX8_goesBack 66 = .ok (.iastore, 1) := by decide +kernel
theorem dX8_goesBack_67 : decode cX8_goesBack 67 = .ok (.return_, 1) := by decide +kernel
theorem sp_X8_goesBack {t R : Nat} {c : Bool} {B : Bk} {T : Nat → Bool} {K F : Nat → Nat} {D : Mem} (h : RB D B T K F) (hV : VB B) (hK : ∀ i, i < 3 → K i ≤ 5 ∧ F i ≤ 9) (htop : D 104 21 = nI t) (ht : t < 16) (hby : D 123 t = b2i c) (hpar : ∀ u, t = u + 1 → D 115 u = nI R ∧ R < 3) : Rvx 2 j_X8_goesBack [.ref 104] D (fun D' => BKR K D D' t c R) := by
  refine E.start 1 (ls := [some (.ref 104), none]) (by decide +kernel) (Nat.le_of_ble_eq_true rfl) rfl (Nat.le_refl _) (Nat.le_refl _) ?_
  have hB9 := h.fq (Fq.up (D := D) (a := 104) (i := 21) (v := nI t - 1) (by unfold SCR; omega))
  refine X_aload_n (nx := 1) dX8_goesBack_0 rfl rfl rfl ?_
  refine M_getP (nx := 4) dX8_goesBack_1 rfl fl_RX8_64 rfl (by first | assumption | rfl | decide | omega) (by first | assumption | rfl | decide | omega) (by first | assumption | rfl | decide | omega) ?_
  refine X_aload_n (nx := 5) dX8_goesBack_4 rfl rfl rfl ?_
  refine M_getI (nx := 8) dX8_goesBack_5 rfl fl_RX8_140 rfl (by first | assumption | rfl | decide | omega) (by first | assumption | rfl | decide | omega) ?_
  refine X_top (htop) ?_
  refine M_ld (a := 123) (L := 16) (nx := 9) dX8_goesBack_8 rfl (by decide) (by decide) rfl (by decide) (by omega) (hby) ?_
  refine X_iconst (v := 1) (nx := 10) dX8_goesBack_9 rfl rfl ?_
  refine X_icmp_ne (tgt := 17) (nx := 13) dX8_goesBack_10 rfl rfl (fun h10 => ?_) (fun h10 => ?_)
  · skip
    have hc : c = false := by cases c; rfl; exact absurd rfl h10
    refine X_iconst (v := 0) (nx := 18) dX8_goesBack_17 rfl rfl ?_
    refine X_istore_n (i := 1) (nx := 19) dX8_goesBack_18 rfl rfl (by decide) rfl (st_s (st_0)) ?_
    refine X_aload_n (nx := 20) dX8_goesBack_19 rfl rfl rfl ?_
    refine X_dup (nx := 21) dX8_goesBack_20 rfl rfl ?_
    refine M_getI (nx := 24) dX8_goesBack_21 rfl fl_RX8_140 rfl (by first | assumption | rfl | decide | omega) (by first | assumption | rfl | decide | omega) ?_
    refine X_top (htop) ?_
    refine X_iconst (v := 1) (nx := 25) dX8_goesBack_24 rfl rfl ?_
    refine X_isub (nx := 26) dX8_goesBack_25 rfl ?_
    refine M_putI (nx := 29) dX8_goesBack_26 rfl fl_RX8_140 rfl rfl (by first | assumption | rfl | decide | omega) (by first | assumption | rfl | decide | omega) ?_
    refine X_aload_n (nx := 30) dX8_goesBack_29 rfl rfl rfl ?_
    refine M_getI (nx := 33) dX8_goesBack_30 rfl fl_RX8_140 rfl (by first | assumption | rfl | decide | omega) (by first | assumption | rfl | decide | omega) ?_
    refine X_top (up2_same) ?_
    refine X_if_lt (tgt := 67) (nx := 36) dX8_goesBack_33 rfl rfl (fun h33 => ?_) (fun h33 => ?_)
    · skip
      have h33 := n1_lt ht h33
      exact Z_retv dX8_goesBack_67 rfl (by
        first
        | exact ⟨up2_same, Fq.up (Or.inl ⟨rfl, rfl⟩), fun u hu => by omega⟩
        | exact ⟨up2_same, Fq.up (Or.inl ⟨rfl, rfl⟩), fun u' hu => by rw [hc, Bool.false_and, if_neg (by decide), up2_other (by omega)]⟩
        | exact ⟨up2_same, Fq.up (Or.inl ⟨rfl, rfl⟩), fun u' hu => by rw [hc, h53, if_neg (by decide), up2_other (by omega)]⟩
        | exact ⟨(up2_other (by omega)).trans up2_same, Fq.up' (Fq.up (Or.inl ⟨rfl, rfl⟩)) (Or.inr ⟨rfl, rfl⟩), fun u' hu => by obtain rfl : u' = u := (by omega); rw [hc, h53, if_pos (by decide)]; exact up2_same⟩)
    · skip
      obtain ⟨u, rfl⟩ := n1_ge h33
      have hR3 := (hpar u rfl).2
      refine X_iload_n (nx := 37) dX8_goesBack_36 rfl rfl rfl ?_
      refine X_if_eq (tgt := 67) (nx := 40) dX8_goesBack_37 rfl rfl (fun h37 => ?_) (fun h37 => ?_)
      · skip
        exact Z_retv dX8_goesBack_67 rfl (by
          first
          | exact ⟨up2_same, Fq.up (Or.inl ⟨rfl, rfl⟩), fun u hu => by omega⟩
          | exact ⟨up2_same, Fq.up (Or.inl ⟨rfl, rfl⟩), fun u' hu => by rw [hc, Bool.false_and, if_neg (by decide), up2_other (by omega)]⟩
          | exact ⟨up2_same, Fq.up (Or.inl ⟨rfl, rfl⟩), fun u' hu => by rw [hc, h53, if_neg (by decide), up2_other (by omega)]⟩
          | exact ⟨(up2_other (by omega)).trans up2_same, Fq.up' (Fq.up (Or.inl ⟨rfl, rfl⟩)) (Or.inr ⟨rfl, rfl⟩), fun u' hu => by obtain rfl : u' = u := (by omega); rw [hc, h53, if_pos (by decide)]; exact up2_same⟩)
      · exact absurd h37 (by decide)
  · skip
    have hc := b2i_1.mp h10
    refine X_iconst (v := 1) (nx := 14) dX8_goesBack_13 rfl rfl ?_
    refine X_goto (tgt := 18) dX8_goesBack_14 rfl ?_
    refine X_istore_n (i := 1) (nx := 19) dX8_goesBack_18 rfl rfl (by decide) rfl (st_s (st_0)) ?_
    refine X_aload_n (nx := 20) dX8_goesBack_19 rfl rfl rfl ?_
    refine X_dup (nx := 21) dX8_goesBack_20 rfl rfl ?_
    refine M_getI (nx := 24) dX8_goesBack_21 rfl fl_RX8_140 rfl (by first | assumption | rfl | decide | omega) (by first | assumption | rfl | decide | omega) ?_
    refine X_top (htop) ?_
    refine X_iconst (v := 1) (nx := 25) dX8_goesBack_24 rfl rfl ?_
    refine X_isub (nx := 26) dX8_goesBack_25 rfl ?_
    refine M_putI (nx := 29) dX8_goesBack_26 rfl fl_RX8_140 rfl rfl (by first | assumption | rfl | decide | omega) (by first | assumption | rfl | decide | omega) ?_
    refine X_aload_n (nx := 30) dX8_goesBack_29 rfl rfl rfl ?_
    refine M_getI (nx := 33) dX8_goesBack_30 rfl fl_RX8_140 rfl (by first | assumption | rfl | decide | omega) (by first | assumption | rfl | decide | omega) ?_
    refine X_top (up2_same) ?_
    refine X_if_lt (tgt := 67) (nx := 36) dX8_goesBack_33 rfl rfl (fun h33 => ?_) (fun h33 => ?_)
    · skip
      have h33 := n1_lt ht h33
      exact Z_retv dX8_goesBack_67 rfl (by
        first
        | exact ⟨up2_same, Fq.up (Or.inl ⟨rfl, rfl⟩), fun u hu => by omega⟩
        | exact ⟨up2_same, Fq.up (Or.inl ⟨rfl, rfl⟩), fun u' hu => by rw [hc, Bool.false_and, if_neg (by decide), up2_other (by omega)]⟩
        | exact ⟨up2_same, Fq.up (Or.inl ⟨rfl, rfl⟩), fun u' hu => by rw [hc, h53, if_neg (by decide), up2_other (by omega)]⟩
        | exact ⟨(up2_other (by omega)).trans up2_same, Fq.up' (Fq.up (Or.inl ⟨rfl, rfl⟩)) (Or.inr ⟨rfl, rfl⟩), fun u' hu => by obtain rfl : u' = u := (by omega); rw [hc, h53, if_pos (by decide)]; exact up2_same⟩)
    · skip
      obtain ⟨u, rfl⟩ := n1_ge h33
      have hR3 := (hpar u rfl).2
      refine X_iload_n (nx := 37) dX8_goesBack_36 rfl rfl rfl ?_
      refine X_if_eq (tgt := 67) (nx := 40) dX8_goesBack_37 rfl rfl (fun h37 => ?_) (fun h37 => ?_)
      · exact absurd h37 (by decide)
      · skip
        refine X_aload_n (nx := 41) dX8_goesBack_40 rfl rfl rfl ?_
        refine X_aload_n (nx := 42) dX8_goesBack_41 rfl rfl rfl ?_
        refine M_getP (nx := 45) dX8_goesBack_42 rfl fl_RX8_40 rfl (by first | assumption | rfl | decide | omega) (by first | assumption | rfl | decide | omega) (by first | assumption | rfl | decide | omega) ?_
        refine X_aload_n (nx := 46) dX8_goesBack_45 rfl rfl rfl ?_
        refine M_getI (nx := 49) dX8_goesBack_46 rfl fl_RX8_140 rfl (by first | assumption | rfl | decide | omega) (by first | assumption | rfl | decide | omega) ?_
        refine X_top (show _ = nI u from up2_same.trans (sub1 u)) ?_
        refine M_ld (a := 115) (L := 16) (nx := 50) dX8_goesBack_49 rfl (by decide) (by decide) rfl (by decide) (by omega) ((up2_other (by omega)).trans (hpar u rfl).1) ?_
        refine Y_Vi1 (nx := 53) dX8_goesBack_50 rfl ml_RX8_167 kj_X8_isStrict kv_X8_isStrict (sp_X8_isStrict hB9 (fun i hi => (hK i hi).1) rfl (hpar u rfl).2) (by first | assumption | rfl | decide | omega) (by first | assumption | rfl | decide | omega) (by decide) rfl (by first | decide | omega) (by exact Nat.le_of_ble_eq_true rfl) ?_
        refine X_if_eq (tgt := 67) (nx := 56) dX8_goesBack_53 rfl rfl (fun h53 => ?_) (fun h53 => ?_)
        · skip
          have h53 := b2i_f.mp h53
          exact Z_retv dX8_goesBack_67 rfl (by
            first
            | exact ⟨up2_same, Fq.up (Or.inl ⟨rfl, rfl⟩), fun u hu => by omega⟩
            | exact ⟨up2_same, Fq.up (Or.inl ⟨rfl, rfl⟩), fun u' hu => by rw [hc, Bool.false_and, if_neg (by decide), up2_other (by omega)]⟩
            | exact ⟨up2_same, Fq.up (Or.inl ⟨rfl, rfl⟩), fun u' hu => by rw [hc, h53, if_neg (by decide), up2_other (by omega)]⟩
            | exact ⟨(up2_other (by omega)).trans up2_same, Fq.up' (Fq.up (Or.inl ⟨rfl, rfl⟩)) (Or.inr ⟨rfl, rfl⟩), fun u' hu => by obtain rfl : u' = u := (by omega); rw [hc, h53, if_pos (by decide)]; exact up2_same⟩)
        · skip
          have h53 := b2i_t.mp h53
          refine X_aload_n (nx := 57) dX8_goesBack_56 rfl rfl rfl ?_
          refine M_getP (nx := 60) dX8_goesBack_57 rfl fl_RX8_55 rfl (by first | assumption | rfl | decide | omega) (by first | assumption | rfl | decide | omega) (by first | assumption | rfl | decide | omega) ?_
          refine X_aload_n (nx := 61) dX8_goesBack_60 rfl rfl rfl ?_
          refine M_getI (nx := 64) dX8_goesBack_61 rfl fl_RX8_140 rfl (by first | assumption | rfl | decide | omega) (by first | assumption | rfl | decide | omega) ?_
          refine X_top (show _ = nI u from up2_same.trans (sub1 u)) ?_
          refine X_bipush (v := 7) (nx := 66) dX8_goesBack_64 rfl rfl ?_
          refine M_st (a := 120) (L := 16) (nx := 67) dX8_goesBack_66 rfl (by decide) (by decide) rfl (by decide) (by omega) ?_
          exact Z_retv dX8_goesBack_67 rfl (by
            first
            | exact ⟨up2_same, Fq.up (Or.inl ⟨rfl, rfl⟩), fun u hu => by omega⟩
            | exact ⟨up2_same, Fq.up (Or.inl ⟨rfl, rfl⟩), fun u' hu => by rw [hc, Bool.false_and, if_neg (by decide), up2_other (by omega)]⟩
            | exact ⟨up2_same, Fq.up (Or.inl ⟨rfl, rfl⟩), fun u' hu => by rw [hc, h53, if_neg (by decide), up2_other (by omega)]⟩
            | exact ⟨(up2_other (by omega)).trans up2_same, Fq.up' (Fq.up (Or.inl ⟨rfl, rfl⟩)) (Or.inr ⟨rfl, rfl⟩), fun u' hu => by obtain rfl : u' = u := (by omega); rw [hc, h53, if_pos (by decide)]; exact up2_same⟩)
def GMR (B : Bk) (T : Nat → Bool) (K F : Nat → Nat) (L : List Nat) (D D' : Mem) (t a s : Nat) (o : Option Nat) : Prop := match o with
  | none => D' = up2 (up2 D 120 t (nI (s + 1))) 121 t 0
  | some k => PSH (up2 D 121 t (nI (k + 1))) D' (t + 1) (nI (mon B k)) 0 (nI (mkn (soP B T (mon B k)) (cm_ B))) (nI a) (nI a) (nI k) 0 (s0_ K F (mon B k) L.length a)
theorem mf_some {B : Bk} (hV : VB B) {w dp m k : Nat} (h : fst_ (mfP B w dp) m (cm_ B - m) = some k) : k < cm_ B ∧ mo_ B k = nI (mon B k) ∧ mon B k < 3 := by
  obtain ⟨h1, h2, h3, _⟩ := fst_some h
  have hk : k < cm_ B := by omega
  unfold mfP at h3
  simp only [Bool.and_eq_true] at h3
  obtain ⟨u, hu, _, h5, _⟩ := (hV.2.2 k hk).mount h3.2.2
  have e : mon B k = u := by unfold mon; rw [hu]; exact nI_clamp (by omega)
  exact ⟨hk, by rw [e]; exact hu, by omega⟩
theorem opI_ge0 {o : Option Nat} (h : 0 ≤ opI o) : ∃ k, o = some k := by
  cases o with
  | none => exact absurd h (by decide)
  | some k => exact ⟨k, rfl⟩
theorem opI_n0 {o : Option Nat} (h : ¬ 0 ≤ opI o) (hb : ∀ k, o = some k → k < 2147483648) : o = none := opI_lt (Int32.not_le.mp h) hb
theorem SCR.at {b i : Nat} (h : 115 ≤ b ∧ b ≤ 123) : SCR b i := by unfold SCR; omega
theorem dX8_goesMount_0 : decode cX8_goesMount 0 = .ok (.aload_n 0, 1) := by decide +kernel
theorem dX8_goesMount_1 : decode cX8_goesMount 1 = .ok (.aload_n 0, 1) := by decide +kernel
theorem dX8_goesMount_2 : decode cX8_goesMount 2 = .ok (.getfield 46, 3) := by decide +kernel
theorem dX8_goesMount_5 : decode cX8_goesMount 5 = .ok (.aload_n 0, 1) := by decide +kernel
theorem dX8_goesMount_6 : decode cX8_goesMount 6 = .ok (.getfield 140, 3) := by decide +kernel
theorem dX8_goesMount_9 : decode cX8_goesMount 9 = .ok (.iaload, 1) := by decide +kernel
theorem dX8_goesMount_10 : decode cX8_goesMount 10 = .ok (.aload_n 0, 1) := by decide +kernel
theorem dX8_goesMount_11 : decode cX8_goesMount 11 = .ok (.getfield 43, 3) := by decide +kernel
theorem dX8_goesMount_14 : decode cX8_goesMount 14 = .ok (.aload_n 0, 1) := by decide +kernel
theorem dX8_goesMount_15 : decode cX8_goesMount 15 = .ok (.getfield 140, 3) := by decide +kernel
theorem dX8_goesMount_18 : decode cX8_goesMount 18 = .ok (.iaload, 1) := by decide +kernel
theorem dX8_goesMount_19 : decode cX8_goesMount 19 = .ok (.aload_n 0, 1) := by decide +kernel
theorem dX8_goesMount_20 : decode cX8_goesMount 20 = .ok (.getfield 58, 3) := by decide +kernel
theorem dX8_goesMount_23 : decode cX8_goesMount 23 = .ok (.aload_n 0, 1) := by decide +kernel
theorem dX8_goesMount_24 : decode cX8_goesMount 24 = .ok (.getfield 140, 3) := by decide +kernel
theorem dX8_goesMount_27 : decode cX8_goesMount 27 = .ok (.iaload, 1) := by decide +kernel
theorem dX8_goesMount_28 : decode cX8_goesMount 28 = .ok (.invokevirtual 160, 3) := by decide +kernel
theorem dX8_goesMount_31 : decode cX8_goesMount 31 = .ok (.istore_n 1, 1) := by decide +kernel
theorem dX8_goesMount_32 : decode cX8_goesMount 32 = .ok (.iload_n 1, 1) := by decide +kernel
theorem dX8_goesMount_33 : decode cX8_goesMount 33 = .ok (.ifCond .ge 27, 3) := by decide +kernel
theorem dX8_goesMount_36 : decode cX8_goesMount 36 = .ok (.aload_n 0, 1) := by decide +kernel
theorem dX8_goesMount_37 : decode cX8_goesMount 37 = .ok (.getfield 55, 3) := by decide +kernel
theorem dX8_goesMount_40 : decode cX8_goesMount 40 = .ok (.aload_n 0, 1) := by decide +kernel
theorem dX8_goesMount_41 : decode cX8_goesMount 41 = .ok (.getfield 140, 3) := by decide +kernel
theorem dX8_goesMount_44 : decode cX8_goesMount 44 = .ok (.dup2, 1) := by decide +kernel
theorem dX8_goesMount_45 : decode cX8_goesMount 45 = .ok (.iaload, 1) := by decide +kernel
theorem dX8_goesMount_46 : decode cX8_goesMount 46 = .ok (.iconst 1, 1) := by decide +kernel
theorem dX8_goesMount_47 : decode cX8_goesMount 47 = .ok (.iadd, 1) := by decide +kernel
theorem dX8_goesMount_48 : decode cX8_goesMount 48 = .ok (.iastore, 1) := by decide +kernel
theorem dX8_goesMount_49 : decode cX8_goesMount 49 = .ok (.aload_n 0, 1) := by decide +kernel
theorem dX8_goesMount_50 : decode cX8_goesMount 50 = .ok (.getfield 58, 3) := by decide +kernel
theorem dX8_goesMount_53 : decode cX8_goesMount 53 = .ok (.aload_n 0, 1) := by decide +kernel
theorem dX8_goesMount_54 : decode cX8_goesMount 54 = .ok (.getfield 140, 3) := by decide +kernel
theorem dX8_goesMount_57 : decode cX8_goesMount 57 = .ok (.iconst 0, 1) := by decide +kernel
theorem dX8_goesMount_58 : decode cX8_goesMount 58 = .ok (.iastore, 1) := by decide +kernel
theorem dX8_goesMount_59 : decode cX8_goesMount 59 = .ok (.return_, 1) := by decide +kernel
theorem dX8_goesMount_60 : decode cX8_goesMount 60 = .ok (.aload_n 0, 1) := by decide +kernel
theorem dX8_goesMount_61 : decode cX8_goesMount 61 = .ok (.getfield 58, 3) := by decide +kernel
theorem dX8_goesMount_64 : decode cX8_goesMount 64 = .ok (.aload_n 0, 1) := by decide +kernel
theorem dX8_goesMount_65 : decode cX8_goesMount 65 = .ok (.getfield 140, 3) := by decide +kernel
theorem dX8_goesMount_68 : decode cX8_goesMount 68 = .ok (.iload_n 1, 1) := by decide +kernel
theorem dX8_goesMount_69 : decode cX8_goesMount 69 = .ok (.iconst 1, 1) := by decide +kernel
theorem dX8_goesMount_70 : decode cX8_goesMount 70 = .ok (.iadd, 1) := by decide +kernel
theorem dX8_goesMount_71 : decode cX8_goesMount 71 = .ok (.iastore, 1) := by decide +kernel
theorem dX8_goesMount_72 : decode cX8_goesMount 72 = .ok (.aload_n 0, 1) := by decide +kernel
theorem dX8_goesMount_73 : decode cX8_goesMount 73 = .ok (.aload_n 0, 1) := by decide +kernel
theorem dX8_goesMount_74 : decode cX8_goesMount 74 = .ok (.getfield 28, 3) := by decide +kernel
theorem dX8_goesMount_77 : decode cX8_goesMount 77 = .ok (.iload_n 1, 1) := by decide +kernel
theorem dX8_goesMount_78 : decode cX8_goesMount 78 = .ok (.iaload, 1) := by decide +kernel
theorem dX8_goesMount_79 : decode cX8_goesMount 79 = .ok (.iconst 0, 1) := by decide +kernel
theorem dX8_goesMount_80 : decode cX8_goesMount 80 = .ok (.aload_n 0, 1) := by decide +kernel
theorem dX8_goesMount_81 : decode cX8_goesMount 81 = .ok (.aload_n 0, 1) := by decide +kernel
theorem dX8_goesMount_82 : decode cX8_goesMount 82 = .ok (.getfield 28, 3) := by decide +kernel
theorem dX8_goesMount_85 : decode cX8_goesMount 85 = .ok (.iload_n 1, 1) := by decide +kernel
theorem dX8_goesMount_86 : decode cX8_goesMount 86 = .ok (.iaload, 1) := by decide +kernel
theorem dX8_goesMount_87 : decode cX8_goesMount 87 = .ok (.invokevirtual 163, 3) := by decide +kernel
theorem dX8_goesMount_90 : decode cX8_goesMount 90 = .ok (.aload_n 0, 1) := by decide +kernel
theorem dX8_goesMount_91 : decode cX8_goesMount 91 = .ok (.getfield 49, 3) := by decide +kernel
theorem dX8_goesMount_94 : decode cX8_goesMount 94 = .ok (.aload_n 0, 1) := by decide +kernel
theorem dX8_goesMount_95 : decode cX8_goesMount 95 = .ok (.getfield 140, 3) := by decide +kernel
theorem dX8_goesMount_98 : decode cX8_goesMount 98 = .ok (.iaload, 1) := by decide +kernel
theorem dX8_goesMount_99 : decode cX8_goesMount 99 = .ok (.aload_n 0, 1) := by decide +kernel
theorem dX8_goesMount_100 : decode cX8_goesMount 100 = .ok (.getfield 49, 3) := by decide +kernel
theorem dX8_goesMount_103 : decode cX8_goesMount 103 = .ok (.aload_n 0, 1) := by decide +kernel
theorem dX8_goesMount_104 : decode cX8_goesMount 104 = .ok (.getfield 140, 3) := by decide +kernel
theorem dX8_goesMount_107 : decode cX8_goesMount 107 = .ok (.iaload, 1) := by decide +kernel
theorem dX8_goesMount_108 : decode cX8_goesMount 108 = .ok (.iload_n 1, 1) := by decide +kernel
theorem dX8_goesMount_109 : decode cX8_goesMount 109 = .ok (.iconst 0, 1) := by decide +kernel
theorem dX8_goesMount_110 : decode cX8_goesMount 110 = .ok (.invokevirtual 156, 3) := by decide +kernel
theorem dX8_goesMount_113 : decode cX8_goesMount 113 = .ok (.return_, 1) := by decide +kernel
theorem sp_X8_goesMount {t R dp w a root s m : Nat} {via : Int32} {c : Bool} {L : List Nat} {B : Bk} {T : Nat → Bool} {K F : Nat → Nat} {D : Mem} (h : RB D B T K F) (hV : VB B) (hK : ∀ i, i < 3 → K i ≤ 5 ∧ F i ≤ 9) (hL : LT D L) (hf : FRM D t R dp w a root s m via c) (htop : D 104 21 = nI t) (ht : t < 15) (hR : R < 3) (hdp : dp < 100) (hw : w < 1024) (ha : a ≤ L.length) (hs : s < 9) (hm : m ≤ cm_ B) : Rvx 3 j_X8_goesMount [.ref 104] D (fun D' => GMR B T K F L D D' t a s (fst_ (mfP B w dp) m (cm_ B - m))) := by
  refine E.start 1 (ls := [some (.ref 104), none]) (by decide +kernel) (Nat.le_of_ble_eq_true rfl) rfl (Nat.le_refl _) (Nat.le_refl _) ?_
  obtain ⟨hB1, hB2, hB3⟩ := id h
  have hcm := hV.2.1
  obtain ⟨f1, f2, f3, f4, f5, f6, f7, f8, f9⟩ := hf
  have hob : ∀ k, fst_ (mfP B w dp) m (cm_ B - m) = some k → k < 2147483648 := fun k hk => by have := (mf_some hV hk).1; omega
  refine X_aload_n (nx := 1) dX8_goesMount_0 rfl rfl rfl ?_
  refine X_aload_n (nx := 2) dX8_goesMount_1 rfl rfl rfl ?_
  refine M_getP (nx := 5) dX8_goesMount_2 rfl fl_RX8_46 rfl (by first | assumption | rfl | decide | omega) (by first | assumption | rfl | decide | omega) (by first | assumption | rfl | decide | omega) ?_
  refine X_aload_n (nx := 6) dX8_goesMount_5 rfl rfl rfl ?_
  refine M_getI (nx := 9) dX8_goesMount_6 rfl fl_RX8_140 rfl (by first | assumption | rfl | decide | omega) (by first | assumption | rfl | decide | omega) ?_
  refine X_top (htop) ?_
  refine M_ld (a := 117) (L := 16) (nx := 10) dX8_goesMount_9 rfl (by decide) (by decide) rfl (by decide) (by omega) (f3) ?_
  refine X_aload_n (nx := 11) dX8_goesMount_10 rfl rfl rfl ?_
  refine M_getP (nx := 14) dX8_goesMount_11 rfl fl_RX8_43 rfl (by first | assumption | rfl | decide | omega) (by first | assumption | rfl | decide | omega) (by first | assumption | rfl | decide | omega) ?_
  refine X_aload_n (nx := 15) dX8_goesMount_14 rfl rfl rfl ?_
  refine M_getI (nx := 18) dX8_goesMount_15 rfl fl_RX8_140 rfl (by first | assumption | rfl | decide | omega) (by first | assumption | rfl | decide | omega) ?_
  refine X_top (htop) ?_
  refine M_ld (a := 116) (L := 16) (nx := 19) dX8_goesMount_18 rfl (by decide) (by decide) rfl (by decide) (by omega) (f2) ?_
  refine X_aload_n (nx := 20) dX8_goesMount_19 rfl rfl rfl ?_
  refine M_getP (nx := 23) dX8_goesMount_20 rfl fl_RX8_58 rfl (by first | assumption | rfl | decide | omega) (by first | assumption | rfl | decide | omega) (by first | assumption | rfl | decide | omega) ?_
  refine X_aload_n (nx := 24) dX8_goesMount_23 rfl rfl rfl ?_
  refine M_getI (nx := 27) dX8_goesMount_24 rfl fl_RX8_140 rfl (by first | assumption | rfl | decide | omega) (by first | assumption | rfl | decide | omega) ?_
  refine X_top (htop) ?_
  refine M_ld (a := 121) (L := 16) (nx := 28) dX8_goesMount_27 rfl (by decide) (by decide) rfl (by decide) (by omega) (f7) ?_
  refine Y_Vi3 (nx := 31) dX8_goesMount_28 rfl ml_RX8_160 kj_X8_mountFrom kv_X8_mountFrom (sp_X8_mountFrom h hV rfl hw rfl (by omega) rfl hm) (by first | assumption | rfl | decide | omega) (by first | assumption | rfl | decide | omega) (by decide) rfl (by first | decide | omega) (by exact Nat.le_of_ble_eq_true rfl) ?_
  refine X_istore_n (i := 1) (nx := 32) dX8_goesMount_31 rfl rfl (by decide) rfl (st_s (st_0)) ?_
  refine X_iload_n (nx := 33) dX8_goesMount_32 rfl rfl rfl ?_
  refine X_if_ge (tgt := 60) (nx := 36) dX8_goesMount_33 rfl rfl (fun h33 => ?_) (fun h33 => ?_)
  · skip
    obtain ⟨k, hkk⟩ := opI_ge0 h33
    rw [hkk]
    have hk := mf_some hV hkk
    have hB9 := h.fq (Fq.up (D := D) (a := 121) (i := t) (v := nI (k + 1)) (SCR.at (by omega)))
    have hL9 : LT (up2 D 121 t (nI (k + 1))) L := hL.fq (up2_other (by omega)) (up2_ne (by omega))
    refine X_aload_n (nx := 61) dX8_goesMount_60 rfl rfl rfl ?_
    refine M_getP (nx := 64) dX8_goesMount_61 rfl fl_RX8_58 rfl (by first | assumption | rfl | decide | omega) (by first | assumption | rfl | decide | omega) (by first | assumption | rfl | decide | omega) ?_
    refine X_aload_n (nx := 65) dX8_goesMount_64 rfl rfl rfl ?_
    refine M_getI (nx := 68) dX8_goesMount_65 rfl fl_RX8_140 rfl (by first | assumption | rfl | decide | omega) (by first | assumption | rfl | decide | omega) ?_
    refine X_top (htop) ?_
    refine X_iload_n (nx := 69) dX8_goesMount_68 rfl rfl rfl ?_
    refine X_iconst (v := 1) (nx := 70) dX8_goesMount_69 rfl rfl ?_
    refine X_iadd (nx := 71) dX8_goesMount_70 rfl ?_
    refine X_top (nI_1 _) ?_
    refine M_st (a := 121) (L := 16) (nx := 72) dX8_goesMount_71 rfl (by decide) (by decide) rfl (by decide) (by omega) ?_
    refine X_aload_n (nx := 73) dX8_goesMount_72 rfl rfl rfl ?_
    refine X_aload_n (nx := 74) dX8_goesMount_73 rfl rfl rfl ?_
    refine M_getP (nx := 77) dX8_goesMount_74 rfl fl_RX8_28 rfl (by first | assumption | rfl | decide | omega) (by first | assumption | rfl | decide | omega) (by first | assumption | rfl | decide | omega) ?_
    refine X_iload_n (nx := 78) dX8_goesMount_77 rfl rfl rfl ?_
    refine M_ld (a := 111) (L := 10) (nx := 79) dX8_goesMount_78 rfl (by decide) (by decide) rfl (by decide) (by omega) ((up2_other (by omega)).trans ((hB3 k hk.1).2.2.2.1.trans hk.2.1)) ?_
    refine X_iconst (v := 0) (nx := 80) dX8_goesMount_79 rfl rfl ?_
    refine X_aload_n (nx := 81) dX8_goesMount_80 rfl rfl rfl ?_
    refine X_aload_n (nx := 82) dX8_goesMount_81 rfl rfl rfl ?_
    refine M_getP (nx := 85) dX8_goesMount_82 rfl fl_RX8_28 rfl (by first | assumption | rfl | decide | omega) (by first | assumption | rfl | decide | omega) (by first | assumption | rfl | decide | omega) ?_
    refine X_iload_n (nx := 86) dX8_goesMount_85 rfl rfl rfl ?_
    refine M_ld (a := 111) (L := 10) (nx := 87) dX8_goesMount_86 rfl (by decide) (by decide) rfl (by decide) (by omega) ((up2_other (by omega)).trans ((hB3 k hk.1).2.2.2.1.trans hk.2.1)) ?_
    refine Y_Vi1 (nx := 90) dX8_goesMount_87 rfl ml_RX8_163 kj_X8_setOf kv_X8_setOf (sp_X8_setOf hB9 hV rfl (by omega)) (by first | assumption | rfl | decide | omega) (by first | assumption | rfl | decide | omega) (by decide) rfl (by first | decide | omega) (by exact Nat.le_of_ble_eq_true rfl) ?_
    refine X_aload_n (nx := 91) dX8_goesMount_90 rfl rfl rfl ?_
    refine M_getP (nx := 94) dX8_goesMount_91 rfl fl_RX8_49 rfl (by first | assumption | rfl | decide | omega) (by first | assumption | rfl | decide | omega) (by first | assumption | rfl | decide | omega) ?_
    refine X_aload_n (nx := 95) dX8_goesMount_94 rfl rfl rfl ?_
    refine M_getI (nx := 98) dX8_goesMount_95 rfl fl_RX8_140 rfl (by first | assumption | rfl | decide | omega) (by first | assumption | rfl | decide | omega) ?_
    refine X_top ((up2_other (by omega)).trans htop) ?_
    refine M_ld (a := 118) (L := 16) (nx := 99) dX8_goesMount_98 rfl (by decide) (by decide) rfl (by decide) (by omega) ((up2_other (by omega)).trans f4) ?_
    refine X_aload_n (nx := 100) dX8_goesMount_99 rfl rfl rfl ?_
    refine M_getP (nx := 103) dX8_goesMount_100 rfl fl_RX8_49 rfl (by first | assumption | rfl | decide | omega) (by first | assumption | rfl | decide | omega) (by first | assumption | rfl | decide | omega) ?_
    refine X_aload_n (nx := 104) dX8_goesMount_103 rfl rfl rfl ?_
    refine M_getI (nx := 107) dX8_goesMount_104 rfl fl_RX8_140 rfl (by first | assumption | rfl | decide | omega) (by first | assumption | rfl | decide | omega) ?_
    refine X_top ((up2_other (by omega)).trans htop) ?_
    refine M_ld (a := 118) (L := 16) (nx := 108) dX8_goesMount_107 rfl (by decide) (by decide) rfl (by decide) (by omega) ((up2_other (by omega)).trans f4) ?_
    refine X_iload_n (nx := 109) dX8_goesMount_108 rfl rfl rfl ?_
    refine X_iconst (v := 0) (nx := 110) dX8_goesMount_109 rfl rfl ?_
    refine Z_Vv7 (nx := 113) dX8_goesMount_110 rfl ml_RX8_156 kj_X8_looksAt kv_X8_looksAt (sp_X8_looksAt (t := t + 1) hB9 hV hK hL9 ((up2_other (by omega)).trans (htop.trans (sub1 t).symm)) (by omega) rfl hk.2.2 rfl ha) (by first | assumption | rfl | decide | omega) (by first | assumption | rfl | decide | omega) (by decide) rfl (by first | decide | omega) (by exact Nat.le_of_ble_eq_true rfl) (fun D110 g110 => ?_)
    exact Z_retv dX8_goesMount_113 rfl g110
  · skip
    have hno := opI_n0 h33 hob
    rw [hno]
    refine X_aload_n (nx := 37) dX8_goesMount_36 rfl rfl rfl ?_
    refine M_getP (nx := 40) dX8_goesMount_37 rfl fl_RX8_55 rfl (by first | assumption | rfl | decide | omega) (by first | assumption | rfl | decide | omega) (by first | assumption | rfl | decide | omega) ?_
    refine X_aload_n (nx := 41) dX8_goesMount_40 rfl rfl rfl ?_
    refine M_getI (nx := 44) dX8_goesMount_41 rfl fl_RX8_140 rfl (by first | assumption | rfl | decide | omega) (by first | assumption | rfl | decide | omega) ?_
    refine X_top (htop) ?_
    refine X_dup2 (nx := 45) dX8_goesMount_44 rfl rfl rfl ?_
    refine M_ld (a := 120) (L := 16) (nx := 46) dX8_goesMount_45 rfl (by decide) (by decide) rfl (by decide) (by omega) (f6) ?_
    refine X_iconst (v := 1) (nx := 47) dX8_goesMount_46 rfl rfl ?_
    refine X_iadd (nx := 48) dX8_goesMount_47 rfl ?_
    refine X_top (nI_1 _) ?_
    refine M_st (a := 120) (L := 16) (nx := 49) dX8_goesMount_48 rfl (by decide) (by decide) rfl (by decide) (by omega) ?_
    refine X_aload_n (nx := 50) dX8_goesMount_49 rfl rfl rfl ?_
    refine M_getP (nx := 53) dX8_goesMount_50 rfl fl_RX8_58 rfl (by first | assumption | rfl | decide | omega) (by first | assumption | rfl | decide | omega) (by first | assumption | rfl | decide | omega) ?_
    refine X_aload_n (nx := 54) dX8_goesMount_53 rfl rfl rfl ?_
    refine M_getI (nx := 57) dX8_goesMount_54 rfl fl_RX8_140 rfl (by first | assumption | rfl | decide | omega) (by first | assumption | rfl | decide | omega) ?_
    refine X_top ((up2_other (by omega)).trans htop) ?_
    refine X_iconst (v := 0) (nx := 58) dX8_goesMount_57 rfl rfl ?_
    refine M_st (a := 121) (L := 16) (nx := 59) dX8_goesMount_58 rfl (by decide) (by decide) rfl (by decide) (by omega) ?_
    exact Z_retv dX8_goesMount_59 rfl rfl
def GBR (B : Bk) (K F : Nat → Nat) (L : List Nat) (D D' : Mem) (t R dp w a root e : Nat) : Prop :=
  if a < L.length ∧ ¬ mkn (sbP B w dp e) (cm_ B) = 0 then PSH D D' (t + 1) (nI R) (nI (dp + 1)) (nI (mkn (sbP B w dp e) (cm_ B))) (nI (a + 1)) (nI root) (-9) 1 (s0_ K F R L.length (a + 1)) else D' = D
theorem gbr_0 {B : Bk} {K F : Nat → Nat} {L : List Nat} {D : Mem} {t R dp w a root e : Nat} (h : mkn (sbP B w dp e) (cm_ B) = 0) : GBR B K F L D D t R dp w a root e := by
  unfold GBR
  rw [if_neg (fun q => q.2 h)]
theorem gbr_1 {B : Bk} {K F : Nat → Nat} {L : List Nat} {D D' : Mem} {t R dp w a root e : Nat} (hal : a < L.length) (h : ¬ mkn (sbP B w dp e) (cm_ B) = 0) (g : PSH D D' (t + 1) (nI R) (nI (dp + 1)) (nI (mkn (sbP B w dp e) (cm_ B))) (nI (a + 1)) (nI root) (-9) 1 (s0_ K F R L.length (a + 1))) : GBR B K F L D D' t R dp w a root e := by
  unfold GBR
  rw [if_pos ⟨hal, h⟩]; exact g
theorem dX8_goesBy_0 : decode cX8_goesBy 0 = .ok (.aload_n 0, 1) := by decide +kernel
theorem dX8_goesBy_1 : decode cX8_goesBy 1 = .ok (.getfield 49, 3) := by decide +kernel
theorem dX8_goesBy_4 : decode cX8_goesBy 4 = .ok (.aload_n 0, 1) := by decide +kernel
theorem dX8_goesBy_5 : decode cX8_goesBy 5 = .ok (.getfield 140, 3) := by decide +kernel
theorem dX8_goesBy_8 : decode cX8_goesBy 8 = .ok (.iaload, 1) := by decide +kernel
theorem dX8_goesBy_9 : decode cX8_goesBy 9 = .ok (.istore_n 2, 1) := by decide +kernel
theorem dX8_goesBy_10 : decode cX8_goesBy 10 = .ok (.iload_n 2, 1) := by decide +kernel
theorem dX8_goesBy_11 : decode cX8_goesBy 11 = .ok (.aload_n 0, 1) := by decide +kernel
theorem dX8_goesBy_12 : decode cX8_goesBy 12 = .ok (.getfield 134, 3) := by decide +kernel
theorem dX8_goesBy_15 : decode cX8_goesBy 15 = .ok (.if_icmp .ne 4, 3) := by decide +kernel
theorem dX8_goesBy_18 : decode cX8_goesBy 18 = .ok (.return_, 1) := by decide +kernel
theorem dX8_goesBy_19 : decode cX8_goesBy 19 = .ok (.aload_n 0, 1) := by decide +kernel
theorem dX8_goesBy_20 : decode cX8_goesBy 20 = .ok (.getfield 37, 3) := by decide +kernel
theorem dX8_goesBy_23 : decode cX8_goesBy 23 = .ok (.iload_n 2, 1) := by decide +kernel
theorem dX8_goesBy_24 : decode cX8_goesBy 24 = .ok (.iaload, 1) := by decide +kernel
theorem dX8_goesBy_25 : decode cX8_goesBy 25 = .ok (.istore_n 3, 1) := by decide +kernel
theorem dX8_goesBy_26 : decode cX8_goesBy 26 = .ok (.iload_n 1, 1) := by decide +kernel
theorem dX8_goesBy_27 : decode cX8_goesBy 27 = .ok (.iconst 1, 1) := by decide +kernel
theorem dX8_goesBy_28 : decode cX8_goesBy 28 = .ok (.if_icmp .ne 7, 3) := by decide +kernel
theorem dX8_goesBy_31 : decode cX8_goesBy 31 = .ok (.iload_n 3, 1) := by decide +kernel
theorem dX8_goesBy_32 : decode cX8_goesBy 32 = .ok (.goto 23, 3) := by decide +kernel
theorem dX8_goesBy_35 : decode cX8_goesBy 35 = .ok (.iload_n 1, 1) := by decide +kernel
theorem dX8_goesBy_36 : decode cX8_goesBy 36 = .ok (.iconst 3, 1) := by decide +kernel
theorem dX8_goesBy_37 : decode cX8_goesBy 37 = .ok (.if_icmp .ne 8, 3) := by decide +kernel
theorem dX8_goesBy_40 : decode cX8_goesBy 40 = .ok (.bipush 6, 2) := by decide +kernel
theorem dX8_goesBy_42 : decode cX8_goesBy 42 = .ok (.goto 13, 3) := by decide +kernel
theorem dX8_goesBy_45 : decode cX8_goesBy 45 = .ok (.iload_n 3, 1) := by decide +kernel
theorem dX8_goesBy_46 : decode cX8_goesBy 46 = .ok (.iconst 2, 1) := by decide +kernel
theorem dX8_goesBy_47 : decode cX8_goesBy 47 = .ok (.if_icmp .ge 7, 3) := by decide +kernel
theorem dX8_goesBy_50 : decode cX8_goesBy 50 = .ok (.iconst 4, 1) := by decide +kernel
theorem dX8_goesBy_51 : decode cX8_goesBy 51 = .ok (.goto 4, 3) := by decide +kernel
theorem dX8_goesBy_54 : decode cX8_goesBy 54 = .ok (.iconst 5, 1) := by decide +kernel
theorem dX8_goesBy_55 : decode cX8_goesBy 55 = .ok (.istore 4, 2) := by decide +kernel
theorem dX8_goesBy_57 : decode cX8_goesBy 57 = .ok (.aload_n 0, 1) := by decide +kernel
theorem dX8_goesBy_58 : decode cX8_goesBy 58 = .ok (.aload_n 0, 1) := by decide +kernel
theorem dX8_goesBy_59 : decode cX8_goesBy 59 = .ok (.getfield 46, 3) := by decide +kernel
theorem dX8_goesBy_62 : decode cX8_goesBy 62 = .ok (.aload_n 0, 1) := by decide +kernel
theorem dX8_goesBy_63 : decode cX8_goesBy 63 = .ok (.getfield 140, 3) := by decide +kernel
theorem dX8_goesBy_66 : decode cX8_goesBy 66 = .ok (.iaload, 1) := by decide +kernel
theorem dX8_goesBy_67 : decode cX8_goesBy 67 = .ok (.aload_n 0, 1) := by decide +kernel
theorem dX8_goesBy_68 : decode cX8_goesBy 68 = .ok (.getfield 43, 3) := by decide +kernel
theorem dX8_goesBy_71 : decode cX8_goesBy 71 = .ok (.aload_n 0, 1) := by decide +kernel
theorem dX8_goesBy_72 : decode cX8_goesBy 72 = .ok (.getfield 140, 3) := by decide +kernel
theorem dX8_goesBy_75 : decode cX8_goesBy 75 = .ok (.iaload, 1) := by decide +kernel
theorem dX8_goesBy_76 : decode cX8_goesBy 76 = .ok (.iload 4, 2) := by decide +kernel
theorem dX8_goesBy_78 : decode cX8_goesBy 78 = .ok (.invokevirtual 152, 3) := by decide +kernel
theorem dX8_goesBy_81 : decode cX8_goesBy 81 = .ok (.istore 5, 2) := by decide +kernel
theorem dX8_goesBy_83 : decode cX8_goesBy 83 = .ok (.iload 5, 2) := by decide +kernel
theorem dX8_goesBy_85 : decode cX8_goesBy 85 = .ok (.ifCond .eq 44, 3) := by decide +kernel
theorem dX8_goesBy_88 : decode cX8_goesBy 88 = .ok (.aload_n 0, 1) := by decide +kernel
theorem dX8_goesBy_89 : decode cX8_goesBy 89 = .ok (.aload_n 0, 1) := by decide +kernel
theorem dX8_goesBy_90 : decode cX8_goesBy 90 = .ok (.getfield 40, 3) := by decide +kernel
theorem dX8_goesBy_93 : decode cX8_goesBy 93 = .ok (.aload_n 0, 1) := by decide +kernel
theorem dX8_goesBy_94 : decode cX8_goesBy 94 = .ok (.getfield 140, 3) := by decide +kernel
theorem dX8_goesBy_97 : decode cX8_goesBy 97 = .ok (.iaload, 1) := by decide +kernel
theorem dX8_goesBy_98 : decode cX8_goesBy 98 = .ok (.aload_n 0, 1) := by decide +kernel
theorem dX8_goesBy_99 : decode cX8_goesBy 99 = .ok (.getfield 43, 3) := by decide +kernel
theorem dX8_goesBy_102 : decode cX8_goesBy 102 = .ok (.aload_n 0, 1) := by decide +kernel
theorem dX8_goesBy_103 : decode cX8_goesBy 103 = .ok (.getfield 140, 3) := by decide +kernel
theorem dX8_goesBy_106 : decode cX8_goesBy 106 = .ok (.iaload, 1) := by decide +kernel
theorem dX8_goesBy_107 : decode cX8_goesBy 107 = .ok (.iconst 1, 1) := by decide +kernel
theorem dX8_goesBy_108 : decode cX8_goesBy 108 = .ok (.iadd, 1) := by decide +kernel
theorem dX8_goesBy_109 : decode cX8_goesBy 109 = .ok (.iload 5, 2) := by decide +kernel
theorem dX8_goesBy_111 : decode cX8_goesBy 111 = .ok (.iload_n 2, 1) := by decide +kernel
theorem dX8_goesBy_112 : decode cX8_goesBy 112 = .ok (.iconst 1, 1) := by decide +kernel
theorem dX8_goesBy_113 : decode cX8_goesBy 113 = .ok (.iadd, 1) := by decide +kernel
theorem dX8_goesBy_114 : decode cX8_goesBy 114 = .ok (.aload_n 0, 1) := by decide +kernel
theorem dX8_goesBy_115 : decode cX8_goesBy 115 = .ok (.getfield 52, 3) := by decide +kernel
theorem dX8_goesBy_118 : decode cX8_goesBy 118 = .ok (.aload_n 0, 1) := by decide +kernel
theorem dX8_goesBy_119 : decode cX8_goesBy 119 = .ok (.getfield 140, 3) := by decide +kernel
theorem dX8_goesBy_122 : decode cX8_goesBy 122 = .ok (.iaload, 1) := by decide +kernel
theorem dX8_goesBy_123 : decode cX8_goesBy 123 = .ok (.bipush (-9), 2) := by decide +kernel
theorem dX8_goesBy_125 : decode cX8_goesBy 125 = .ok (.iconst 1, 1) := by decide +kernel
theorem dX8_goesBy_126 : decode cX8_goesBy 126 = .ok (.invokevirtual 156, 3) := by decide +kernel
theorem dX8_goesBy_129 : decode cX8_goesBy 129 = .ok (.return_, 1) := by decide +kernel
theorem gb_57 {t R dp w a root s m : Nat} {via : Int32} {c : Bool} {L : List Nat} {e : Nat} {y : Int32} {z1 z3 : Int32} {B : Bk} {T : Nat → Bool} {K F : Nat → Nat} {D : Mem} (h : RB D B T K F) (hV : VB B) (hK : ∀ i, i < 3 → K i ≤ 5 ∧ F i ≤ 9) (hL : LT D L) (hf : FRM D t R dp w a root s m via c) (htop : D 104 21 = nI t) (ht : t < 15) (hR : R < 3) (hdp : dp < 100) (hw : w < 1024) (ha : a ≤ L.length) (hs : s < 9) (hal : a < L.length) (he : e < 7) (hy : y = nI e) : X 3 138 j_X8_goesBy 57 [some (.ref 104), some (.int z1), some (.int (nI a)), some (.int z3), some (.int y), none] [] (138, P0, D) (fun r σ => ∃ (D' : Mem), r = [] ∧ σ = wd D' ∧ GBR B K F L D D' t R dp w a root e) := by
  subst hy
  obtain ⟨hB1, hB2, hB3⟩ := id h
  have hcm := hV.2.1
  obtain ⟨f1, f2, f3, f4, f5, f6, f7, f8, f9⟩ := hf
  have hL4 := hL.2.2.1
  have hmk := mkn_lt (sbP B w dp e) (cm_ B)
  have hmk2 : 2 ^ cm_ B ≤ 2 ^ 10 := Nat.pow_le_pow_right (by decide) hcm
  refine X_aload_n (nx := 58) dX8_goesBy_57 rfl rfl rfl ?_
  refine X_aload_n (nx := 59) dX8_goesBy_58 rfl rfl rfl ?_
  refine M_getP (nx := 62) dX8_goesBy_59 rfl fl_RX8_46 rfl (by first | assumption | rfl | decide | omega) (by first | assumption | rfl | decide | omega) (by first | assumption | rfl | decide | omega) ?_
  refine X_aload_n (nx := 63) dX8_goesBy_62 rfl rfl rfl ?_
  refine M_getI (nx := 66) dX8_goesBy_63 rfl fl_RX8_140 rfl (by first | assumption | rfl | decide | omega) (by first | assumption | rfl | decide | omega) ?_
  refine X_top (htop) ?_
  refine M_ld (a := 117) (L := 16) (nx := 67) dX8_goesBy_66 rfl (by decide) (by decide) rfl (by decide) (by omega) (f3) ?_
  refine X_aload_n (nx := 68) dX8_goesBy_67 rfl rfl rfl ?_
  refine M_getP (nx := 71) dX8_goesBy_68 rfl fl_RX8_43 rfl (by first | assumption | rfl | decide | omega) (by first | assumption | rfl | decide | omega) (by first | assumption | rfl | decide | omega) ?_
  refine X_aload_n (nx := 72) dX8_goesBy_71 rfl rfl rfl ?_
  refine M_getI (nx := 75) dX8_goesBy_72 rfl fl_RX8_140 rfl (by first | assumption | rfl | decide | omega) (by first | assumption | rfl | decide | omega) ?_
  refine X_top (htop) ?_
  refine M_ld (a := 116) (L := 16) (nx := 76) dX8_goesBy_75 rfl (by decide) (by decide) rfl (by decide) (by omega) (f2) ?_
  refine X_iload (nx := 78) dX8_goesBy_76 rfl rfl ?_
  refine Y_Vi3 (nx := 81) dX8_goesBy_78 rfl ml_RX8_152 kj_X8_setBy kv_X8_setBy (sp_X8_setBy h hV rfl hw rfl (by omega) rfl (by omega)) (by first | assumption | rfl | decide | omega) (by first | assumption | rfl | decide | omega) (by decide) rfl (by first | decide | omega) (by exact Nat.le_of_ble_eq_true rfl) ?_
  refine X_istore (i := 5) (nx := 83) dX8_goesBy_81 rfl (by decide) rfl (st_s (st_s (st_s (st_s (st_s (st_0)))))) ?_
  refine X_iload (nx := 85) dX8_goesBy_83 rfl rfl ?_
  refine X_if_eq (tgt := 129) (nx := 88) dX8_goesBy_85 rfl rfl (fun h85 => ?_) (fun h85 => ?_)
  · skip
    rw [nI_0' (by omega)] at h85
    exact Z_retv dX8_goesBy_129 rfl (by first | exact gbr_1 hal h85 g126 | exact gbr_0 h85)
  · skip
    rw [nI_0' (by omega)] at h85
    refine X_aload_n (nx := 89) dX8_goesBy_88 rfl rfl rfl ?_
    refine X_aload_n (nx := 90) dX8_goesBy_89 rfl rfl rfl ?_
    refine M_getP (nx := 93) dX8_goesBy_90 rfl fl_RX8_40 rfl (by first | assumption | rfl | decide | omega) (by first | assumption | rfl | decide | omega) (by first | assumption | rfl | decide | omega) ?_
    refine X_aload_n (nx := 94) dX8_goesBy_93 rfl rfl rfl ?_
    refine M_getI (nx := 97) dX8_goesBy_94 rfl fl_RX8_140 rfl (by first | assumption | rfl | decide | omega) (by first | assumption | rfl | decide | omega) ?_
    refine X_top (htop) ?_
    refine M_ld (a := 115) (L := 16) (nx := 98) dX8_goesBy_97 rfl (by decide) (by decide) rfl (by decide) (by omega) (f1) ?_
    refine X_aload_n (nx := 99) dX8_goesBy_98 rfl rfl rfl ?_
    refine M_getP (nx := 102) dX8_goesBy_99 rfl fl_RX8_43 rfl (by first | assumption | rfl | decide | omega) (by first | assumption | rfl | decide | omega) (by first | assumption | rfl | decide | omega) ?_
    refine X_aload_n (nx := 103) dX8_goesBy_102 rfl rfl rfl ?_
    refine M_getI (nx := 106) dX8_goesBy_103 rfl fl_RX8_140 rfl (by first | assumption | rfl | decide | omega) (by first | assumption | rfl | decide | omega) ?_
    refine X_top (htop) ?_
    refine M_ld (a := 116) (L := 16) (nx := 107) dX8_goesBy_106 rfl (by decide) (by decide) rfl (by decide) (by omega) (f2) ?_
    refine X_iconst (v := nI 1) (nx := 108) dX8_goesBy_107 rfl rfl ?_
    refine X_iadd (nx := 109) dX8_goesBy_108 rfl ?_
    refine X_top (nI_add _ _) ?_
    refine X_iload (nx := 111) dX8_goesBy_109 rfl rfl ?_
    refine X_iload_n (nx := 112) dX8_goesBy_111 rfl rfl rfl ?_
    refine X_iconst (v := nI 1) (nx := 113) dX8_goesBy_112 rfl rfl ?_
    refine X_iadd (nx := 114) dX8_goesBy_113 rfl ?_
    refine X_top (nI_add _ _) ?_
    refine X_aload_n (nx := 115) dX8_goesBy_114 rfl rfl rfl ?_
    refine M_getP (nx := 118) dX8_goesBy_115 rfl fl_RX8_52 rfl (by first | assumption | rfl | decide | omega) (by first | assumption | rfl | decide | omega) (by first | assumption | rfl | decide | omega) ?_
    refine X_aload_n (nx := 119) dX8_goesBy_118 rfl rfl rfl ?_
    refine M_getI (nx := 122) dX8_goesBy_119 rfl fl_RX8_140 rfl (by first | assumption | rfl | decide | omega) (by first | assumption | rfl | decide | omega) ?_
    refine X_top (htop) ?_
    refine M_ld (a := 119) (L := 16) (nx := 123) dX8_goesBy_122 rfl (by decide) (by decide) rfl (by decide) (by omega) (f5) ?_
    refine X_bipush (v := -9) (nx := 125) dX8_goesBy_123 rfl rfl ?_
    refine X_iconst (v := 1) (nx := 126) dX8_goesBy_125 rfl rfl ?_
    refine Z_Vv7 (nx := 129) dX8_goesBy_126 rfl ml_RX8_156 kj_X8_looksAt kv_X8_looksAt (sp_X8_looksAt (t := t + 1) h hV hK hL (htop.trans (sub1 t).symm) (by omega) rfl hR rfl (by omega)) (by first | assumption | rfl | decide | omega) (by first | assumption | rfl | decide | omega) (by decide) rfl (by first | decide | omega) (by exact Nat.le_of_ble_eq_true rfl) (fun D126 g126 => ?_)
    exact Z_retv dX8_goesBy_129 rfl (by first | exact gbr_1 hal h85 g126 | exact gbr_0 h85)
theorem sp_X8_goesBy1 {t R dp w a root s m : Nat} {via : Int32} {c : Bool} {L : List Nat} {x : Int32} {B : Bk} {T : Nat → Bool} {K F : Nat → Nat} {D : Mem} (h : RB D B T K F) (hV : VB B) (hK : ∀ i, i < 3 → K i ≤ 5 ∧ F i ≤ 9) (hL : LT D L) (hf : FRM D t R dp w a root s m via c) (htop : D 104 21 = nI t) (ht : t < 15) (hR : R < 3) (hdp : dp < 100) (hw : w < 1024) (ha : a ≤ L.length) (hs : s < 9) (hx : x = 1) : Rvx 3 j_X8_goesBy [.ref 104, .int x] D (fun D' => GBR B K F L D D' t R dp w a root (L.getD a 0)) := by
  refine E.start 4 (ls := [some (.ref 104), some (.int x), none, none, none, none]) (by decide +kernel) (Nat.le_of_ble_eq_true rfl) rfl (Nat.le_refl _) (Nat.le_refl _) ?_
  subst hx
  obtain ⟨hB1, hB2, hB3⟩ := id h
  have hcm := hV.2.1
  obtain ⟨f1, f2, f3, f4, f5, f6, f7, f8, f9⟩ := id hf
  have hL4 := hL.2.2.1
  refine X_aload_n (nx := 1) dX8_goesBy_0 rfl rfl rfl ?_
  refine M_getP (nx := 4) dX8_goesBy_1 rfl fl_RX8_49 rfl (by first | assumption | rfl | decide | omega) (by first | assumption | rfl | decide | omega) (by first | assumption | rfl | decide | omega) ?_
  refine X_aload_n (nx := 5) dX8_goesBy_4 rfl rfl rfl ?_
  refine M_getI (nx := 8) dX8_goesBy_5 rfl fl_RX8_140 rfl (by first | assumption | rfl | decide | omega) (by first | assumption | rfl | decide | omega) ?_
  refine X_top (htop) ?_
  refine M_ld (a := 118) (L := 16) (nx := 9) dX8_goesBy_8 rfl (by decide) (by decide) rfl (by decide) (by omega) (f4) ?_
  refine X_istore_n (i := 2) (nx := 10) dX8_goesBy_9 rfl rfl (by decide) rfl (st_s (st_s (st_0))) ?_
  refine X_iload_n (nx := 11) dX8_goesBy_10 rfl rfl rfl ?_
  refine X_aload_n (nx := 12) dX8_goesBy_11 rfl rfl rfl ?_
  refine M_getI (nx := 15) dX8_goesBy_12 rfl fl_RX8_134 rfl (by first | assumption | rfl | decide | omega) (by first | assumption | rfl | decide | omega) ?_
  refine X_top (hL.1) ?_
  refine X_icmp_ne (tgt := 19) (nx := 18) dX8_goesBy_15 rfl rfl (fun h15 => ?_) (fun h15 => ?_)
  · skip
    rw [nI_eq (by omega) (by omega)] at h15
    have hal : a < L.length := by omega
    have hl4 : L.getD a 0 < 4 := hL.2.2.2 _ (getD_in hal)
    refine X_aload_n (nx := 20) dX8_goesBy_19 rfl rfl rfl ?_
    refine M_getP (nx := 23) dX8_goesBy_20 rfl fl_RX8_37 rfl (by first | assumption | rfl | decide | omega) (by first | assumption | rfl | decide | omega) (by first | assumption | rfl | decide | omega) ?_
    refine X_iload_n (nx := 24) dX8_goesBy_23 rfl rfl rfl ?_
    refine M_ld (a := 114) (L := 4) (nx := 25) dX8_goesBy_24 rfl (by decide) (by decide) rfl (by decide) (by omega) (hL.2.1 a hal) ?_
    refine X_istore_n (i := 3) (nx := 26) dX8_goesBy_25 rfl rfl (by decide) rfl (st_s (st_s (st_s (st_0)))) ?_
    refine X_iload_n (nx := 27) dX8_goesBy_26 rfl rfl rfl ?_
    refine X_iconst (v := 1) (nx := 28) dX8_goesBy_27 rfl rfl ?_
    refine X_icmp_ne (tgt := 35) (nx := 31) dX8_goesBy_28 rfl rfl (fun h28 => ?_) (fun h28 => ?_)
    · exact absurd h28 (by decide)
    · skip
      refine X_iload_n (nx := 32) dX8_goesBy_31 rfl rfl rfl ?_
      refine X_goto (tgt := 55) dX8_goesBy_32 rfl ?_
      refine X_istore (i := 4) (nx := 57) dX8_goesBy_55 rfl (by decide) rfl (st_s (st_s (st_s (st_s (st_0))))) ?_
      exact gb_57 (e := L.getD a 0) h hV hK hL hf htop ht hR hdp hw ha hs hal (by first | omega | (split <;> omega)) (by first | rfl | (rw [if_pos (by omega)]) | (rw [if_neg (by omega)]))
  · skip
    rw [nI_eq (by omega) (by omega)] at h15
    exact Z_retv dX8_goesBy_18 rfl (show GBR B K F L D D t R dp w a root _ by unfold GBR; rw [if_neg (by omega)])
theorem sp_X8_goesBy2 {t R dp w a root s m : Nat} {via : Int32} {c : Bool} {L : List Nat} {x : Int32} {B : Bk} {T : Nat → Bool} {K F : Nat → Nat} {D : Mem} (h : RB D B T K F) (hV : VB B) (hK : ∀ i, i < 3 → K i ≤ 5 ∧ F i ≤ 9) (hL : LT D L) (hf : FRM D t R dp w a root s m via c) (htop : D 104 21 = nI t) (ht : t < 15) (hR : R < 3) (hdp : dp < 100) (hw : w < 1024) (ha : a ≤ L.length) (hs : s < 9) (hx : x = 2) : Rvx 3 j_X8_goesBy [.ref 104, .int x] D (fun D' => GBR B K F L D D' t R dp w a root ((if L.getD a 0 < 2 then 4 else 5))) := by
  refine E.start 4 (ls := [some (.ref 104), some (.int x), none, none, none, none]) (by decide +kernel) (Nat.le_of_ble_eq_true rfl) rfl (Nat.le_refl _) (Nat.le_refl _) ?_
  subst hx
  obtain ⟨hB1, hB2, hB3⟩ := id h
  have hcm := hV.2.1
  obtain ⟨f1, f2, f3, f4, f5, f6, f7, f8, f9⟩ := id hf
  have hL4 := hL.2.2.1
  refine X_aload_n (nx := 1) dX8_goesBy_0 rfl rfl rfl ?_
  refine M_getP (nx := 4) dX8_goesBy_1 rfl fl_RX8_49 rfl (by first | assumption | rfl | decide | omega) (by first | assumption | rfl | decide | omega) (by first | assumption | rfl | decide | omega) ?_
  refine X_aload_n (nx := 5) dX8_goesBy_4 rfl rfl rfl ?_
  refine M_getI (nx := 8) dX8_goesBy_5 rfl fl_RX8_140 rfl (by first | assumption | rfl | decide | omega) (by first | assumption | rfl | decide | omega) ?_
  refine X_top (htop) ?_
  refine M_ld (a := 118) (L := 16) (nx := 9) dX8_goesBy_8 rfl (by decide) (by decide) rfl (by decide) (by omega) (f4) ?_
  refine X_istore_n (i := 2) (nx := 10) dX8_goesBy_9 rfl rfl (by decide) rfl (st_s (st_s (st_0))) ?_
  refine X_iload_n (nx := 11) dX8_goesBy_10 rfl rfl rfl ?_
  refine X_aload_n (nx := 12) dX8_goesBy_11 rfl rfl rfl ?_
  refine M_getI (nx := 15) dX8_goesBy_12 rfl fl_RX8_134 rfl (by first | assumption | rfl | decide | omega) (by first | assumption | rfl | decide | omega) ?_
  refine X_top (hL.1) ?_
  refine X_icmp_ne (tgt := 19) (nx := 18) dX8_goesBy_15 rfl rfl (fun h15 => ?_) (fun h15 => ?_)
  · skip
    rw [nI_eq (by omega) (by omega)] at h15
    have hal : a < L.length := by omega
    have hl4 : L.getD a 0 < 4 := hL.2.2.2 _ (getD_in hal)
    refine X_aload_n (nx := 20) dX8_goesBy_19 rfl rfl rfl ?_
    refine M_getP (nx := 23) dX8_goesBy_20 rfl fl_RX8_37 rfl (by first | assumption | rfl | decide | omega) (by first | assumption | rfl | decide | omega) (by first | assumption | rfl | decide | omega) ?_
    refine X_iload_n (nx := 24) dX8_goesBy_23 rfl rfl rfl ?_
    refine M_ld (a := 114) (L := 4) (nx := 25) dX8_goesBy_24 rfl (by decide) (by decide) rfl (by decide) (by omega) (hL.2.1 a hal) ?_
    refine X_istore_n (i := 3) (nx := 26) dX8_goesBy_25 rfl rfl (by decide) rfl (st_s (st_s (st_s (st_0)))) ?_
    refine X_iload_n (nx := 27) dX8_goesBy_26 rfl rfl rfl ?_
    refine X_iconst (v := 1) (nx := 28) dX8_goesBy_27 rfl rfl ?_
    refine X_icmp_ne (tgt := 35) (nx := 31) dX8_goesBy_28 rfl rfl (fun h28 => ?_) (fun h28 => ?_)
    · skip
      refine X_iload_n (nx := 36) dX8_goesBy_35 rfl rfl rfl ?_
      refine X_iconst (v := 3) (nx := 37) dX8_goesBy_36 rfl rfl ?_
      refine X_icmp_ne (tgt := 45) (nx := 40) dX8_goesBy_37 rfl rfl (fun h37 => ?_) (fun h37 => ?_)
      · skip
        refine X_iload_n (nx := 46) dX8_goesBy_45 rfl rfl rfl ?_
        refine X_iconst (v := nI 2) (nx := 47) dX8_goesBy_46 rfl rfl ?_
        refine X_icmp_ge (tgt := 54) (nx := 50) dX8_goesBy_47 rfl rfl (fun h47 => ?_) (fun h47 => ?_)
        · skip
          rw [nI_leI (by omega) (by omega)] at h47
          refine X_iconst (v := nI 5) (nx := 55) dX8_goesBy_54 rfl rfl ?_
          refine X_istore (i := 4) (nx := 57) dX8_goesBy_55 rfl (by decide) rfl (st_s (st_s (st_s (st_s (st_0))))) ?_
          exact gb_57 (e := (if L.getD a 0 < 2 then 4 else 5)) h hV hK hL hf htop ht hR hdp hw ha hs hal (by first | omega | (split <;> omega)) (by first | rfl | (rw [if_pos (by omega)]) | (rw [if_neg (by omega)]))
        · skip
          rw [nI_leI (by omega) (by omega)] at h47
          refine X_iconst (v := nI 4) (nx := 51) dX8_goesBy_50 rfl rfl ?_
          refine X_goto (tgt := 55) dX8_goesBy_51 rfl ?_
          refine X_istore (i := 4) (nx := 57) dX8_goesBy_55 rfl (by decide) rfl (st_s (st_s (st_s (st_s (st_0))))) ?_
          exact gb_57 (e := (if L.getD a 0 < 2 then 4 else 5)) h hV hK hL hf htop ht hR hdp hw ha hs hal (by first | omega | (split <;> omega)) (by first | rfl | (rw [if_pos (by omega)]) | (rw [if_neg (by omega)]))
      · exact absurd h37 (by decide)
    · exact absurd h28 (by decide)
  · skip
    rw [nI_eq (by omega) (by omega)] at h15
    exact Z_retv dX8_goesBy_18 rfl (show GBR B K F L D D t R dp w a root _ by unfold GBR; rw [if_neg (by omega)])
theorem sp_X8_goesBy3 {t R dp w a root s m : Nat} {via : Int32} {c : Bool} {L : List Nat} {x : Int32} {B : Bk} {T : Nat → Bool} {K F : Nat → Nat} {D : Mem} (h : RB D B T K F) (hV : VB B) (hK : ∀ i, i < 3 → K i ≤ 5 ∧ F i ≤ 9) (hL : LT D L) (hf : FRM D t R dp w a root s m via c) (htop : D 104 21 = nI t) (ht : t < 15) (hR : R < 3) (hdp : dp < 100) (hw : w < 1024) (ha : a ≤ L.length) (hs : s < 9) (hx : x = 3) : Rvx 3 j_X8_goesBy [.ref 104, .int x] D (fun D' => GBR B K F L D D' t R dp w a root (6)) := by
  refine E.start 4 (ls := [some (.ref 104), some (.int x), none, none, none, none]) (by decide +kernel) (Nat.le_of_ble_eq_true rfl) rfl (Nat.le_refl _) (Nat.le_refl _) ?_
  subst hx
  obtain ⟨hB1, hB2, hB3⟩ := id h
  have hcm := hV.2.1
  obtain ⟨f1, f2, f3, f4, f5, f6, f7, f8, f9⟩ := id hf
  have hL4 := hL.2.2.1
  refine X_aload_n (nx := 1) dX8_goesBy_0 rfl rfl rfl ?_
  refine M_getP (nx := 4) dX8_goesBy_1 rfl fl_RX8_49 rfl (by first | assumption | rfl | decide | omega) (by first | assumption | rfl | decide | omega) (by first | assumption | rfl | decide | omega) ?_
  refine X_aload_n (nx := 5) dX8_goesBy_4 rfl rfl rfl ?_
  refine M_getI (nx := 8) dX8_goesBy_5 rfl fl_RX8_140 rfl (by first | assumption | rfl | decide | omega) (by first | assumption | rfl | decide | omega) ?_
  refine X_top (htop) ?_
  refine M_ld (a := 118) (L := 16) (nx := 9) dX8_goesBy_8 rfl (by decide) (by decide) rfl (by decide) (by omega) (f4) ?_
  refine X_istore_n (i := 2) (nx := 10) dX8_goesBy_9 rfl rfl (by decide) rfl (st_s (st_s (st_0))) ?_
  refine X_iload_n (nx := 11) dX8_goesBy_10 rfl rfl rfl ?_
  refine X_aload_n (nx := 12) dX8_goesBy_11 rfl rfl rfl ?_
  refine M_getI (nx := 15) dX8_goesBy_12 rfl fl_RX8_134 rfl (by first | assumption | rfl | decide | omega) (by first | assumption | rfl | decide | omega) ?_
  refine X_top (hL.1) ?_
  refine X_icmp_ne (tgt := 19) (nx := 18) dX8_goesBy_15 rfl rfl (fun h15 => ?_) (fun h15 => ?_)
  · skip
    rw [nI_eq (by omega) (by omega)] at h15
    have hal : a < L.length := by omega
    have hl4 : L.getD a 0 < 4 := hL.2.2.2 _ (getD_in hal)
    refine X_aload_n (nx := 20) dX8_goesBy_19 rfl rfl rfl ?_
    refine M_getP (nx := 23) dX8_goesBy_20 rfl fl_RX8_37 rfl (by first | assumption | rfl | decide | omega) (by first | assumption | rfl | decide | omega) (by first | assumption | rfl | decide | omega) ?_
    refine X_iload_n (nx := 24) dX8_goesBy_23 rfl rfl rfl ?_
    refine M_ld (a := 114) (L := 4) (nx := 25) dX8_goesBy_24 rfl (by decide) (by decide) rfl (by decide) (by omega) (hL.2.1 a hal) ?_
    refine X_istore_n (i := 3) (nx := 26) dX8_goesBy_25 rfl rfl (by decide) rfl (st_s (st_s (st_s (st_0)))) ?_
    refine X_iload_n (nx := 27) dX8_goesBy_26 rfl rfl rfl ?_
    refine X_iconst (v := 1) (nx := 28) dX8_goesBy_27 rfl rfl ?_
    refine X_icmp_ne (tgt := 35) (nx := 31) dX8_goesBy_28 rfl rfl (fun h28 => ?_) (fun h28 => ?_)
    · skip
      refine X_iload_n (nx := 36) dX8_goesBy_35 rfl rfl rfl ?_
      refine X_iconst (v := 3) (nx := 37) dX8_goesBy_36 rfl rfl ?_
      refine X_icmp_ne (tgt := 45) (nx := 40) dX8_goesBy_37 rfl rfl (fun h37 => ?_) (fun h37 => ?_)
      · exact absurd h37 (by decide)
      · skip
        refine X_bipush (v := nI 6) (nx := 42) dX8_goesBy_40 rfl rfl ?_
        refine X_goto (tgt := 55) dX8_goesBy_42 rfl ?_
        refine X_istore (i := 4) (nx := 57) dX8_goesBy_55 rfl (by decide) rfl (st_s (st_s (st_s (st_s (st_0))))) ?_
        exact gb_57 (e := 6) h hV hK hL hf htop ht hR hdp hw ha hs hal (by first | omega | (split <;> omega)) (by first | rfl | (rw [if_pos (by omega)]) | (rw [if_neg (by omega)]))
    · exact absurd h28 (by decide)
  · skip
    rw [nI_eq (by omega) (by omega)] at h15
    exact Z_retv dX8_goesBy_18 rfl (show GBR B K F L D D t R dp w a root _ by unfold GBR; rw [if_neg (by omega)])
