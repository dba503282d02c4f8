/-! THE REFERENCE: a stage -/
def ordN : List Nat := [0, 1, 2, 3, 4, 5, 6, 6, 0, 1, 3, 2, 4, 5, 6, 6, 5, 0, 1, 2, 3, 4, 5, 6, 4, 0, 1, 3, 2, 4, 5, 6]
def cod (k s : Nat) : Nat := ordN.getD (8 * (if k = 1 then 1 else if k = 2 then 2 else if k = 3 then 3 else 0) + s) 0
theorem ordI : ∀ i, i < 32 → ([0, 1, 2, 3, 4, 5, 6, 6, 0, 1, 3, 2, 4, 5, 6, 6, 5, 0, 1, 2, 3, 4, 5, 6, 4, 0, 1, 3, 2, 4, 5, 6] : List Int32).getD i 0 = nI (ordN.getD i 0) := by decide
theorem ord_b {k s : Nat} (hs : s < 8) : 8 * (if k = 1 then 1 else if k = 2 then 2 else if k = 3 then 3 else 0) + s < 32 := by
  split <;> (try split) <;> (try split) <;> omega
theorem FRM.up {D : Mem} {t R dp w a root s m s' : Nat} {via : Int32} {c : Bool} (h : FRM D t R dp w a root s m via c) : FRM (up2 D 120 t (nI s')) t R dp w a root s' m via c := by
  obtain ⟨f1, f2, f3, f4, f5, f6, f7, f8, f9⟩ := h
  refine ⟨?_, ?_, ?_, ?_, ?_, up2_same, ?_, ?_, ?_⟩ <;> (rw [up2_ne (by omega)]; assumption)
def GER (B : Bk) (L : List Nat) (D D' : Mem) (t w dp v a s : Nat) : Prop := if a = L.length then D' = up2 (up2 D 120 t (nI (s + 1))) 104 23 (opI (fst_ (leP B w dp v) 0 (cm_ B))) else D' = up2 D 120 t (nI (s + 1))
theorem ger_y {B : Bk} {L : List Nat} {D : Mem} {t w dp v a s : Nat} (h : a = L.length) : GER B L D (up2 (up2 D 120 t (nI (s + 1))) 104 23 (opI (fst_ (leP B w dp v) 0 (cm_ B)))) t w dp v a s := by unfold GER; rw [if_pos h]
theorem ger_n {B : Bk} {L : List Nat} {D : Mem} {t w dp v a s : Nat} (h : ¬ a = L.length) : GER B L D (up2 D 120 t (nI (s + 1))) t w dp v a s := by unfold GER; rw [if_neg h]
theorem dX8_goesStage_0 : decode cX8_goesStage 0 = .ok (.getstatic 170, 3) := by decide +kernel
theorem dX8_goesStage_3 : decode cX8_goesStage 3 = .ok (.bipush 8, 2) := by decide +kernel
theorem dX8_goesStage_5 : decode cX8_goesStage 5 = .ok (.aload_n 0, 1) := by decide +kernel
theorem dX8_goesStage_6 : decode cX8_goesStage 6 = .ok (.getfield 13, 3) := by decide +kernel
theorem dX8_goesStage_9 : decode cX8_goesStage 9 = .ok (.aload_n 0, 1) := by decide +kernel
theorem dX8_goesStage_10 : decode cX8_goesStage 10 = .ok (.getfield 40, 3) := by decide +kernel
theorem dX8_goesStage_13 : decode cX8_goesStage 13 = .ok (.aload_n 0, 1) := by decide +kernel
theorem dX8_goesStage_14 : decode cX8_goesStage 14 = .ok (.getfield 140, 3) := by decide +kernel
theorem dX8_goesStage_17 : decode cX8_goesStage 17 = .ok (.iaload, 1) := by decide +kernel
theorem dX8_goesStage_18 : decode cX8_goesStage 18 = .ok (.iaload, 1) := by decide +kernel
theorem dX8_goesStage_19 : decode cX8_goesStage 19 = .ok (.invokestatic 173, 3) := by decide +kernel
theorem dX8_goesStage_22 : decode cX8_goesStage 22 = .ok (.imul, 1) := by decide +kernel
theorem dX8_goesStage_23 : decode cX8_goesStage 23 = .ok (.aload_n 0, 1) := by decide +kernel
theorem dX8_goesStage_24 : decode cX8_goesStage 24 = .ok (.getfield 55, 3) := by decide +kernel
theorem dX8_goesStage_27 : decode cX8_goesStage 27 = .ok (.aload_n 0, 1) := by decide +kernel
theorem dX8_goesStage_28 : decode cX8_goesStage 28 = .ok (.getfield 140, 3) := by decide +kernel
theorem dX8_goesStage_31 : decode cX8_goesStage 31 = .ok (.iaload, 1) := by decide +kernel
theorem dX8_goesStage_32 : decode cX8_goesStage 32 = .ok (.iadd, 1) := by decide +kernel
theorem dX8_goesStage_33 : decode cX8_goesStage 33 = .ok (.iaload, 1) := by decide +kernel
theorem dX8_goesStage_34 : decode cX8_goesStage 34 = .ok (.istore_n 1, 1) := by decide +kernel
theorem dX8_goesStage_35 : decode cX8_goesStage 35 = .ok (.iload_n 1, 1) := by decide +kernel
theorem dX8_goesStage_36 : decode cX8_goesStage 36 = .ok (.bipush 6, 2) := by decide +kernel
theorem dX8_goesStage_38 : decode cX8_goesStage 38 = .ok (.if_icmp .ne 10, 3) := by decide +kernel
theorem dX8_goesStage_41 : decode cX8_goesStage 41 = .ok (.aload_n 0, 1) := by decide +kernel
theorem dX8_goesStage_42 : decode cX8_goesStage 42 = .ok (.invokevirtual 176, 3) := by decide +kernel
theorem dX8_goesStage_45 : decode cX8_goesStage 45 = .ok (.goto 119, 3) := by decide +kernel
theorem dX8_goesStage_48 : decode cX8_goesStage 48 = .ok (.iload_n 1, 1) := by decide +kernel
theorem dX8_goesStage_49 : decode cX8_goesStage 49 = .ok (.iconst 5, 1) := by decide +kernel
theorem dX8_goesStage_50 : decode cX8_goesStage 50 = .ok (.if_icmp .ne 10, 3) := by decide +kernel
theorem dX8_goesStage_53 : decode cX8_goesStage 53 = .ok (.aload_n 0, 1) := by decide +kernel
theorem dX8_goesStage_54 : decode cX8_goesStage 54 = .ok (.invokevirtual 179, 3) := by decide +kernel
theorem dX8_goesStage_57 : decode cX8_goesStage 57 = .ok (.goto 107, 3) := by decide +kernel
theorem dX8_goesStage_60 : decode cX8_goesStage 60 = .ok (.aload_n 0, 1) := by decide +kernel
theorem dX8_goesStage_61 : decode cX8_goesStage 61 = .ok (.getfield 55, 3) := by decide +kernel
theorem dX8_goesStage_64 : decode cX8_goesStage 64 = .ok (.aload_n 0, 1) := by decide +kernel
theorem dX8_goesStage_65 : decode cX8_goesStage 65 = .ok (.getfield 140, 3) := by decide +kernel
theorem dX8_goesStage_68 : decode cX8_goesStage 68 = .ok (.dup2, 1) := by decide +kernel
theorem dX8_goesStage_69 : decode cX8_goesStage 69 = .ok (.iaload, 1) := by decide +kernel
theorem dX8_goesStage_70 : decode cX8_goesStage 70 = .ok (.iconst 1, 1) := by decide +kernel
theorem dX8_goesStage_71 : decode cX8_goesStage 71 = .ok (.iadd, 1) := by decide +kernel
theorem dX8_goesStage_72 : decode cX8_goesStage 72 = .ok (.iastore, 1) := by decide +kernel
theorem dX8_goesStage_73 : decode cX8_goesStage 73 = .ok (.iload_n 1, 1) := by decide +kernel
theorem dX8_goesStage_74 : decode cX8_goesStage 74 = .ok (.ifCond .ne 45, 3) := by decide +kernel
theorem dX8_goesStage_77 : decode cX8_goesStage 77 = .ok (.aload_n 0, 1) := by decide +kernel
theorem dX8_goesStage_78 : decode cX8_goesStage 78 = .ok (.getfield 49, 3) := by decide +kernel
theorem dX8_goesStage_81 : decode cX8_goesStage 81 = .ok (.aload_n 0, 1) := by decide +kernel
theorem dX8_goesStage_82 : decode cX8_goesStage 82 = .ok (.getfield 140, 3) := by decide +kernel
theorem dX8_goesStage_85 : decode cX8_goesStage 85 = .ok (.iaload, 1) := by decide +kernel
theorem dX8_goesStage_86 : decode cX8_goesStage 86 = .ok (.aload_n 0, 1) := by decide +kernel
theorem dX8_goesStage_87 : decode cX8_goesStage 87 = .ok (.getfield 134, 3) := by decide +kernel
theorem dX8_goesStage_90 : decode cX8_goesStage 90 = .ok (.if_icmp .ne 29, 3) := by decide +kernel
theorem dX8_goesStage_93 : decode cX8_goesStage 93 = .ok (.aload_n 0, 1) := by decide +kernel
theorem dX8_goesStage_94 : decode cX8_goesStage 94 = .ok (.aload_n 0, 1) := by decide +kernel
theorem dX8_goesStage_95 : decode cX8_goesStage 95 = .ok (.aload_n 0, 1) := by decide +kernel
theorem dX8_goesStage_96 : decode cX8_goesStage 96 = .ok (.getfield 46, 3) := by decide +kernel
theorem dX8_goesStage_99 : decode cX8_goesStage 99 = .ok (.aload_n 0, 1) := by decide +kernel
theorem dX8_goesStage_100 : decode cX8_goesStage 100 = .ok (.getfield 140, 3) := by decide +kernel
theorem dX8_goesStage_103 : decode cX8_goesStage 103 = .ok (.iaload, 1) := by decide +kernel
theorem dX8_goesStage_104 : decode cX8_goesStage 104 = .ok (.aload_n 0, 1) := by decide +kernel
theorem dX8_goesStage_105 : decode cX8_goesStage 105 = .ok (.getfield 43, 3) := by decide +kernel
theorem dX8_goesStage_108 : decode cX8_goesStage 108 = .ok (.aload_n 0, 1) := by decide +kernel
theorem dX8_goesStage_109 : decode cX8_goesStage 109 = .ok (.getfield 140, 3) := by decide +kernel
theorem dX8_goesStage_112 : decode cX8_goesStage 112 = .ok (.iaload, 1) := by decide +kernel
theorem dX8_goesStage_113 : decode cX8_goesStage 113 = .ok (.invokevirtual 182, 3) := by decide +kernel
theorem dX8_goesStage_116 : decode cX8_goesStage 116 = .ok (.putfield 185, 3) := by decide +kernel
theorem dX8_goesStage_119 : decode cX8_goesStage 119 = .ok (.iload_n 1, 1) := by decide +kernel
theorem dX8_goesStage_120 : decode cX8_goesStage 120 = .ok (.iconst 4, 1) := by decide +kernel
theorem dX8_goesStage_121 : decode cX8_goesStage 121 = .ok (.if_icmp .ne 29, 3) := by decide +kernel
theorem dX8_goesStage_124 : decode cX8_goesStage 124 = .ok (.aload_n 0, 1) := by decide +kernel
theorem dX8_goesStage_125 : decode cX8_goesStage 125 = .ok (.aload_n 0, 1) := by decide +kernel
theorem dX8_goesStage_126 : decode cX8_goesStage 126 = .ok (.aload_n 0, 1) := by decide +kernel
theorem dX8_goesStage_127 : decode cX8_goesStage 127 = .ok (.getfield 46, 3) := by decide +kernel
theorem dX8_goesStage_130 : decode cX8_goesStage 130 = .ok (.aload_n 0, 1) := by decide +kernel
theorem dX8_goesStage_131 : decode cX8_goesStage 131 = .ok (.getfield 140, 3) := by decide +kernel
theorem dX8_goesStage_134 : decode cX8_goesStage 134 = .ok (.iaload, 1) := by decide +kernel
theorem dX8_goesStage_135 : decode cX8_goesStage 135 = .ok (.aload_n 0, 1) := by decide +kernel
theorem dX8_goesStage_136 : decode cX8_goesStage 136 = .ok (.getfield 43, 3) := by decide +kernel
theorem dX8_goesStage_139 : decode cX8_goesStage 139 = .ok (.aload_n 0, 1) := by decide +kernel
theorem dX8_goesStage_140 : decode cX8_goesStage 140 = .ok (.getfield 140, 3) := by decide +kernel
theorem dX8_goesStage_143 : decode cX8_goesStage 143 = .ok (.iaload, 1) := by decide +kernel
theorem dX8_goesStage_144 : decode cX8_goesStage 144 = .ok (.invokevirtual 188, 3) := by decide +kernel
theorem dX8_goesStage_147 : decode cX8_goesStage 147 = .ok (.putfield 185, 3) := by decide +kernel
theorem dX8_goesStage_150 : decode cX8_goesStage 150 = .ok (.iload_n 1, 1) := by decide +kernel
theorem dX8_goesStage_151 : decode cX8_goesStage 151 = .ok (.iconst 1, 1) := by decide +kernel
theorem dX8_goesStage_152 : decode cX8_goesStage 152 = .ok (.iconst 3, 1) := by decide +kernel
theorem dX8_goesStage_153 : decode cX8_goesStage 153 = .ok (.invokestatic 115, 3) := by decide +kernel
theorem dX8_goesStage_156 : decode cX8_goesStage 156 = .ok (.ifCond .eq 8, 3) := by decide +kernel
theorem dX8_goesStage_159 : decode cX8_goesStage 159 = .ok (.aload_n 0, 1) := by decide +kernel
theorem dX8_goesStage_160 : decode cX8_goesStage 160 = .ok (.iload_n 1, 1) := by decide +kernel
theorem dX8_goesStage_161 : decode cX8_goesStage 161 = .ok (.invokevirtual 191, 3) := by decide +kernel
theorem dX8_goesStage_164 : decode cX8_goesStage 164 = .ok (.return_, 1) := by decide +kernel
theorem sp_gs_over {t R dp w a root s m : Nat} {via : Int32} {c : Bool} {L : List Nat} {R2 : Nat} {B : Bk} {T : Nat → Bool} {K F : Nat → Nat} {D : Mem} (h : RB D B T K F) (hV : VB B) (hK : ∀ i, i < 3 → K i ≤ 5 ∧ F i ≤ 9) (hL : LT D L) (hf : FRM D t R dp w a root s m via c) (htop : D 104 21 = nI t) (ht : t < 15) (hR : R < 3) (hdp : dp < 100) (hw : w < 1024) (ha : a ≤ L.length) (hs : s < 8) (hc : cod (K R) s = 6) (hpar : ∀ u, t = u + 1 → D 115 u = nI R2 ∧ R2 < 3) : Rvx 4 j_X8_goesStage [.ref 104] D (fun D' => BKR K D D' t c R2) := by
  refine E.start 1 (ls := [some (.ref 104), none]) (by decide +kernel) (Nat.le_of_ble_eq_true rfl) rfl (Nat.le_refl _) (Nat.le_refl _) ?_
  obtain ⟨hB1, hB2, hB3⟩ := id h
  have hcm := hV.2.1
  obtain ⟨f1, f2, f3, f4, f5, f6, f7, f8, f9⟩ := id hf
  have hk6 : K R < 6 := by have := (hK R hR).1; omega
  refine X_gs_ord (nx := 3) dX8_goesStage_0 rfl gs_RX8_170 ?_
  refine X_bipush (v := nI 8) (nx := 5) dX8_goesStage_3 rfl rfl ?_
  refine X_aload_n (nx := 6) dX8_goesStage_5 rfl rfl rfl ?_
  refine M_getP (nx := 9) dX8_goesStage_6 rfl fl_RX8_13 rfl (by first | assumption | rfl | decide | omega) (by first | assumption | rfl | decide | omega) (by first | assumption | rfl | decide | omega) ?_
  refine X_aload_n (nx := 10) dX8_goesStage_9 rfl rfl rfl ?_
  refine M_getP (nx := 13) dX8_goesStage_10 rfl fl_RX8_40 rfl (by first | assumption | rfl | decide | omega) (by first | assumption | rfl | decide | omega) (by first | assumption | rfl | decide | omega) ?_
  refine X_aload_n (nx := 14) dX8_goesStage_13 rfl rfl rfl ?_
  refine M_getI (nx := 17) dX8_goesStage_14 rfl fl_RX8_140 rfl (by first | assumption | rfl | decide | omega) (by first | assumption | rfl | decide | omega) ?_
  refine X_top (htop) ?_
  refine M_ld (a := 115) (L := 16) (nx := 18) dX8_goesStage_17 rfl (by decide) (by decide) rfl (by decide) (by omega) (f1) ?_
  refine M_ld (a := 106) (L := 3) (nx := 19) dX8_goesStage_18 rfl (by decide) (by decide) rfl (by decide) (by omega) ((hB1 R hR).1) ?_
  refine Y_Si1 (nx := 22) dX8_goesStage_19 rfl ml_RX8_173 kj_X8_orderOf ks_X8_orderOf (sp_X8_orderOf rfl hk6) (by first | decide | omega) (by exact Nat.le_of_ble_eq_true rfl) ?_
  refine X_imul (nx := 23) dX8_goesStage_22 rfl ?_
  refine X_top (mul_nI) ?_
  refine X_aload_n (nx := 24) dX8_goesStage_23 rfl rfl rfl ?_
  refine M_getP (nx := 27) dX8_goesStage_24 rfl fl_RX8_55 rfl (by first | assumption | rfl | decide | omega) (by first | assumption | rfl | decide | omega) (by first | assumption | rfl | decide | omega) ?_
  refine X_aload_n (nx := 28) dX8_goesStage_27 rfl rfl rfl ?_
  refine M_getI (nx := 31) dX8_goesStage_28 rfl fl_RX8_140 rfl (by first | assumption | rfl | decide | omega) (by first | assumption | rfl | decide | omega) ?_
  refine X_top (htop) ?_
  refine M_ld (a := 120) (L := 16) (nx := 32) dX8_goesStage_31 rfl (by decide) (by decide) rfl (by decide) (by omega) (f6) ?_
  refine X_iadd (nx := 33) dX8_goesStage_32 rfl ?_
  refine X_top (nI_add _ _) ?_
  refine M_sld (a := 2001) (n := 32) (nx := 34) dX8_goesStage_33 rfl (fun _ _ => rfl) ⟨ord_b hs, by decide⟩ (ordI _ (ord_b hs)) ?_
  refine X_top (show _ = 6 from congrArg nI hc) ?_
  refine X_istore_n (i := 1) (nx := 35) dX8_goesStage_34 rfl rfl (by decide) rfl (st_s (st_0)) ?_
  refine X_iload_n (nx := 36) dX8_goesStage_35 rfl rfl rfl ?_
  refine X_bipush (v := 6) (nx := 38) dX8_goesStage_36 rfl rfl ?_
  refine X_icmp_ne (tgt := 48) (nx := 41) dX8_goesStage_38 rfl rfl (fun h38 => ?_) (fun h38 => ?_)
  · exact absurd h38 (by decide)
  · skip
    refine X_aload_n (nx := 42) dX8_goesStage_41 rfl rfl rfl ?_
    refine Z_Vv0 (nx := 45) dX8_goesStage_42 rfl ml_RX8_176 kj_X8_goesBack kv_X8_goesBack (sp_X8_goesBack h hV hK htop (by omega) f9 hpar) (by first | assumption | rfl | decide | omega) (by first | assumption | rfl | decide | omega) (by decide) rfl (by first | decide | omega) (by exact Nat.le_of_ble_eq_true rfl) (fun D42 g42 => ?_)
    refine X_goto (tgt := 164) dX8_goesStage_45 rfl ?_
    exact Z_retv dX8_goesStage_164 rfl g42
theorem sp_gs_mount {t R dp w a root s m : Nat} {via : Int32} {c : Bool} {L : List Nat} {B : Bk} {T : Nat → Bool} {K F : Nat → Nat} {D : Mem} (h : RB D B T K F) (hV : VB B) (hK : ∀ i, i < 3 → K i ≤ 5 ∧ F i ≤ 9) (hL : LT D L) (hf : FRM D t R dp w a root s m via c) (htop : D 104 21 = nI t) (ht : t < 15) (hR : R < 3) (hdp : dp < 100) (hw : w < 1024) (ha : a ≤ L.length) (hs : s < 8) (hc : cod (K R) s = 5) (hm : m ≤ cm_ B) : Rvx 4 j_X8_goesStage [.ref 104] D (fun D' => GMR B T K F L D D' t a s (fst_ (mfP B w dp) m (cm_ B - m))) := by
  refine E.start 1 (ls := [some (.ref 104), none]) (by decide +kernel) (Nat.le_of_ble_eq_true rfl) rfl (Nat.le_refl _) (Nat.le_refl _) ?_
  obtain ⟨hB1, hB2, hB3⟩ := id h
  have hcm := hV.2.1
  obtain ⟨f1, f2, f3, f4, f5, f6, f7, f8, f9⟩ := id hf
  have hk6 : K R < 6 := by have := (hK R hR).1; omega
  refine X_gs_ord (nx := 3) dX8_goesStage_0 rfl gs_RX8_170 ?_
  refine X_bipush (v := nI 8) (nx := 5) dX8_goesStage_3 rfl rfl ?_
  refine X_aload_n (nx := 6) dX8_goesStage_5 rfl rfl rfl ?_
  refine M_getP (nx := 9) dX8_goesStage_6 rfl fl_RX8_13 rfl (by first | assumption | rfl | decide | omega) (by first | assumption | rfl | decide | omega) (by first | assumption | rfl | decide | omega) ?_
  refine X_aload_n (nx := 10) dX8_goesStage_9 rfl rfl rfl ?_
  refine M_getP (nx := 13) dX8_goesStage_10 rfl fl_RX8_40 rfl (by first | assumption | rfl | decide | omega) (by first | assumption | rfl | decide | omega) (by first | assumption | rfl | decide | omega) ?_
  refine X_aload_n (nx := 14) dX8_goesStage_13 rfl rfl rfl ?_
  refine M_getI (nx := 17) dX8_goesStage_14 rfl fl_RX8_140 rfl (by first | assumption | rfl | decide | omega) (by first | assumption | rfl | decide | omega) ?_
  refine X_top (htop) ?_
  refine M_ld (a := 115) (L := 16) (nx := 18) dX8_goesStage_17 rfl (by decide) (by decide) rfl (by decide) (by omega) (f1) ?_
  refine M_ld (a := 106) (L := 3) (nx := 19) dX8_goesStage_18 rfl (by decide) (by decide) rfl (by decide) (by omega) ((hB1 R hR).1) ?_
  refine Y_Si1 (nx := 22) dX8_goesStage_19 rfl ml_RX8_173 kj_X8_orderOf ks_X8_orderOf (sp_X8_orderOf rfl hk6) (by first | decide | omega) (by exact Nat.le_of_ble_eq_true rfl) ?_
  refine X_imul (nx := 23) dX8_goesStage_22 rfl ?_
  refine X_top (mul_nI) ?_
  refine X_aload_n (nx := 24) dX8_goesStage_23 rfl rfl rfl ?_
  refine M_getP (nx := 27) dX8_goesStage_24 rfl fl_RX8_55 rfl (by first | assumption | rfl | decide | omega) (by first | assumption | rfl | decide | omega) (by first | assumption | rfl | decide | omega) ?_
  refine X_aload_n (nx := 28) dX8_goesStage_27 rfl rfl rfl ?_
  refine M_getI (nx := 31) dX8_goesStage_28 rfl fl_RX8_140 rfl (by first | assumption | rfl | decide | omega) (by first | assumption | rfl | decide | omega) ?_
  refine X_top (htop) ?_
  refine M_ld (a := 120) (L := 16) (nx := 32) dX8_goesStage_31 rfl (by decide) (by decide) rfl (by decide) (by omega) (f6) ?_
  refine X_iadd (nx := 33) dX8_goesStage_32 rfl ?_
  refine X_top (nI_add _ _) ?_
  refine M_sld (a := 2001) (n := 32) (nx := 34) dX8_goesStage_33 rfl (fun _ _ => rfl) ⟨ord_b hs, by decide⟩ (ordI _ (ord_b hs)) ?_
  refine X_top (show _ = 5 from congrArg nI hc) ?_
  refine X_istore_n (i := 1) (nx := 35) dX8_goesStage_34 rfl rfl (by decide) rfl (st_s (st_0)) ?_
  refine X_iload_n (nx := 36) dX8_goesStage_35 rfl rfl rfl ?_
  refine X_bipush (v := 6) (nx := 38) dX8_goesStage_36 rfl rfl ?_
  refine X_icmp_ne (tgt := 48) (nx := 41) dX8_goesStage_38 rfl rfl (fun h38 => ?_) (fun h38 => ?_)
  · skip
    refine X_iload_n (nx := 49) dX8_goesStage_48 rfl rfl rfl ?_
    refine X_iconst (v := 5) (nx := 50) dX8_goesStage_49 rfl rfl ?_
    refine X_icmp_ne (tgt := 60) (nx := 53) dX8_goesStage_50 rfl rfl (fun h50 => ?_) (fun h50 => ?_)
    · exact absurd h50 (by decide)
    · skip
      refine X_aload_n (nx := 54) dX8_goesStage_53 rfl rfl rfl ?_
      refine Z_Vv0 (nx := 57) dX8_goesStage_54 rfl ml_RX8_179 kj_X8_goesMount kv_X8_goesMount (sp_X8_goesMount h hV hK hL hf htop ht hR hdp hw ha (by omega) hm) (by first | assumption | rfl | decide | omega) (by first | assumption | rfl | decide | omega) (by decide) rfl (by first | decide | omega) (by exact Nat.le_of_ble_eq_true rfl) (fun D54 g54 => ?_)
      refine X_goto (tgt := 164) dX8_goesStage_57 rfl ?_
      exact Z_retv dX8_goesStage_164 rfl g54
  · exact absurd h38 (by decide)
theorem sp_gs_end {t R dp w a root s m : Nat} {via : Int32} {c : Bool} {L : List Nat} {v : Nat} {B : Bk} {T : Nat → Bool} {K F : Nat → Nat} {D : Mem} (h : RB D B T K F) (hV : VB B) (hK : ∀ i, i < 3 → K i ≤ 5 ∧ F i ≤ 9) (hL : LT D L) (hf : FRM D t R dp w a root s m via c) (htop : D 104 21 = nI t) (ht : t < 15) (hR : R < 3) (hdp : dp < 100) (hw : w < 1024) (ha : a ≤ L.length) (hs : s < 8) (hc : cod (K R) s = 0) (hva : D 104 24 = nI v) (hv : v < 4) : Rvx 4 j_X8_goesStage [.ref 104] D (fun D' => GER B L D D' t w dp v a s) := by
  refine E.start 1 (ls := [some (.ref 104), none]) (by decide +kernel) (Nat.le_of_ble_eq_true rfl) rfl (Nat.le_refl _) (Nat.le_refl _) ?_
  obtain ⟨hB1, hB2, hB3⟩ := id h
  have hcm := hV.2.1
  obtain ⟨f1, f2, f3, f4, f5, f6, f7, f8, f9⟩ := id hf
  have hk6 : K R < 6 := by have := (hK R hR).1; omega
  have hB9 := h.fq (Fq.up (D := D) (a := 120) (i := t) (v := nI (s + 1)) (SCR.at (by omega)))
  have hL9 : LT (up2 D 120 t (nI (s + 1))) L := hL.fq (up2_other (by omega)) (up2_ne (by omega))
  have hf9 := hf.up (s' := s + 1)
  have hL4 := hL.2.2.1
  refine X_gs_ord (nx := 3) dX8_goesStage_0 rfl gs_RX8_170 ?_
  refine X_bipush (v := nI 8) (nx := 5) dX8_goesStage_3 rfl rfl ?_
  refine X_aload_n (nx := 6) dX8_goesStage_5 rfl rfl rfl ?_
  refine M_getP (nx := 9) dX8_goesStage_6 rfl fl_RX8_13 rfl (by first | assumption | rfl | decide | omega) (by first | assumption | rfl | decide | omega) (by first | assumption | rfl | decide | omega) ?_
  refine X_aload_n (nx := 10) dX8_goesStage_9 rfl rfl rfl ?_
  refine M_getP (nx := 13) dX8_goesStage_10 rfl fl_RX8_40 rfl (by first | assumption | rfl | decide | omega) (by first | assumption | rfl | decide | omega) (by first | assumption | rfl | decide | omega) ?_
  refine X_aload_n (nx := 14) dX8_goesStage_13 rfl rfl rfl ?_
  refine M_getI (nx := 17) dX8_goesStage_14 rfl fl_RX8_140 rfl (by first | assumption | rfl | decide | omega) (by first | assumption | rfl | decide | omega) ?_
  refine X_top (htop) ?_
  refine M_ld (a := 115) (L := 16) (nx := 18) dX8_goesStage_17 rfl (by decide) (by decide) rfl (by decide) (by omega) (f1) ?_
  refine M_ld (a := 106) (L := 3) (nx := 19) dX8_goesStage_18 rfl (by decide) (by decide) rfl (by decide) (by omega) ((hB1 R hR).1) ?_
  refine Y_Si1 (nx := 22) dX8_goesStage_19 rfl ml_RX8_173 kj_X8_orderOf ks_X8_orderOf (sp_X8_orderOf rfl hk6) (by first | decide | omega) (by exact Nat.le_of_ble_eq_true rfl) ?_
  refine X_imul (nx := 23) dX8_goesStage_22 rfl ?_
  refine X_top (mul_nI) ?_
  refine X_aload_n (nx := 24) dX8_goesStage_23 rfl rfl rfl ?_
  refine M_getP (nx := 27) dX8_goesStage_24 rfl fl_RX8_55 rfl (by first | assumption | rfl | decide | omega) (by first | assumption | rfl | decide | omega) (by first | assumption | rfl | decide | omega) ?_
  refine X_aload_n (nx := 28) dX8_goesStage_27 rfl rfl rfl ?_
  refine M_getI (nx := 31) dX8_goesStage_28 rfl fl_RX8_140 rfl (by first | assumption | rfl | decide | omega) (by first | assumption | rfl | decide | omega) ?_
  refine X_top (htop) ?_
  refine M_ld (a := 120) (L := 16) (nx := 32) dX8_goesStage_31 rfl (by decide) (by decide) rfl (by decide) (by omega) (f6) ?_
  refine X_iadd (nx := 33) dX8_goesStage_32 rfl ?_
  refine X_top (nI_add _ _) ?_
  refine M_sld (a := 2001) (n := 32) (nx := 34) dX8_goesStage_33 rfl (fun _ _ => rfl) ⟨ord_b hs, by decide⟩ (ordI _ (ord_b hs)) ?_
  refine X_top (show _ = 0 from congrArg nI hc) ?_
  refine X_istore_n (i := 1) (nx := 35) dX8_goesStage_34 rfl rfl (by decide) rfl (st_s (st_0)) ?_
  refine X_iload_n (nx := 36) dX8_goesStage_35 rfl rfl rfl ?_
  refine X_bipush (v := 6) (nx := 38) dX8_goesStage_36 rfl rfl ?_
  refine X_icmp_ne (tgt := 48) (nx := 41) dX8_goesStage_38 rfl rfl (fun h38 => ?_) (fun h38 => ?_)
  · skip
    refine X_iload_n (nx := 49) dX8_goesStage_48 rfl rfl rfl ?_
    refine X_iconst (v := 5) (nx := 50) dX8_goesStage_49 rfl rfl ?_
    refine X_icmp_ne (tgt := 60) (nx := 53) dX8_goesStage_50 rfl rfl (fun h50 => ?_) (fun h50 => ?_)
    · skip
      refine X_aload_n (nx := 61) dX8_goesStage_60 rfl rfl rfl ?_
      refine M_getP (nx := 64) dX8_goesStage_61 rfl fl_RX8_55 rfl (by first | assumption | rfl | decide | omega) (by first | assumption | rfl | decide | omega) (by first | assumption | rfl | decide | omega) ?_
      refine X_aload_n (nx := 65) dX8_goesStage_64 rfl rfl rfl ?_
      refine M_getI (nx := 68) dX8_goesStage_65 rfl fl_RX8_140 rfl (by first | assumption | rfl | decide | omega) (by first | assumption | rfl | decide | omega) ?_
      refine X_top (htop) ?_
      refine X_dup2 (nx := 69) dX8_goesStage_68 rfl rfl rfl ?_
      refine M_ld (a := 120) (L := 16) (nx := 70) dX8_goesStage_69 rfl (by decide) (by decide) rfl (by decide) (by omega) (f6) ?_
      refine X_iconst (v := 1) (nx := 71) dX8_goesStage_70 rfl rfl ?_
      refine X_iadd (nx := 72) dX8_goesStage_71 rfl ?_
      refine X_top (nI_1 _) ?_
      refine M_st (a := 120) (L := 16) (nx := 73) dX8_goesStage_72 rfl (by decide) (by decide) rfl (by decide) (by omega) ?_
      refine X_iload_n (nx := 74) dX8_goesStage_73 rfl rfl rfl ?_
      refine X_if_ne (tgt := 119) (nx := 77) dX8_goesStage_74 rfl rfl (fun h74 => ?_) (fun h74 => ?_)
      · exact absurd h74 (by decide)
      · skip
        refine X_aload_n (nx := 78) dX8_goesStage_77 rfl rfl rfl ?_
        refine M_getP (nx := 81) dX8_goesStage_78 rfl fl_RX8_49 rfl (by first | assumption | rfl | decide | omega) (by first | assumption | rfl | decide | omega) (by first | assumption | rfl | decide | omega) ?_
        refine X_aload_n (nx := 82) dX8_goesStage_81 rfl rfl rfl ?_
        refine M_getI (nx := 85) dX8_goesStage_82 rfl fl_RX8_140 rfl (by first | assumption | rfl | decide | omega) (by first | assumption | rfl | decide | omega) ?_
        refine X_top ((up2_other (by omega)).trans htop) ?_
        refine M_ld (a := 118) (L := 16) (nx := 86) dX8_goesStage_85 rfl (by decide) (by decide) rfl (by decide) (by omega) (hf9.2.2.2.1) ?_
        refine X_aload_n (nx := 87) dX8_goesStage_86 rfl rfl rfl ?_
        refine M_getI (nx := 90) dX8_goesStage_87 rfl fl_RX8_134 rfl (by first | assumption | rfl | decide | omega) (by first | assumption | rfl | decide | omega) ?_
        refine X_top (hL9.1) ?_
        refine X_icmp_ne (tgt := 119) (nx := 93) dX8_goesStage_90 rfl rfl (fun h90 => ?_) (fun h90 => ?_)
        · skip
          rw [nI_eq (by omega) (by omega)] at h90
          refine X_iload_n (nx := 120) dX8_goesStage_119 rfl rfl rfl ?_
          refine X_iconst (v := 4) (nx := 121) dX8_goesStage_120 rfl rfl ?_
          refine X_icmp_ne (tgt := 150) (nx := 124) dX8_goesStage_121 rfl rfl (fun h121 => ?_) (fun h121 => ?_)
          · skip
            refine X_iload_n (nx := 151) dX8_goesStage_150 rfl rfl rfl ?_
            refine X_iconst (v := 1) (nx := 152) dX8_goesStage_151 rfl rfl ?_
            refine X_iconst (v := 3) (nx := 153) dX8_goesStage_152 rfl rfl ?_
            refine Y_Si3 (nx := 156) dX8_goesStage_153 rfl ml_RX8_115 kj_X8_isIn ks_X8_isIn (sp_X8_isIn) (by first | decide | omega) (by exact Nat.le_of_ble_eq_true rfl) ?_
            refine X_top (show _ = (0 : Int32) from by decide) ?_
            refine X_if_eq (tgt := 164) (nx := 159) dX8_goesStage_156 rfl rfl (fun h156 => ?_) (fun h156 => ?_)
            · skip
              exact Z_retv dX8_goesStage_164 rfl (by first | exact ger_y h90 | exact ger_n h90)
            · exact absurd h156 (by decide)
          · exact absurd h121 (by decide)
        · skip
          rw [nI_eq (by omega) (by omega)] at h90
          refine X_aload_n (nx := 94) dX8_goesStage_93 rfl rfl rfl ?_
          refine X_aload_n (nx := 95) dX8_goesStage_94 rfl rfl rfl ?_
          refine X_aload_n (nx := 96) dX8_goesStage_95 rfl rfl rfl ?_
          refine M_getP (nx := 99) dX8_goesStage_96 rfl fl_RX8_46 rfl (by first | assumption | rfl | decide | omega) (by first | assumption | rfl | decide | omega) (by first | assumption | rfl | decide | omega) ?_
          refine X_aload_n (nx := 100) dX8_goesStage_99 rfl rfl rfl ?_
          refine M_getI (nx := 103) dX8_goesStage_100 rfl fl_RX8_140 rfl (by first | assumption | rfl | decide | omega) (by first | assumption | rfl | decide | omega) ?_
          refine X_top ((up2_other (by omega)).trans htop) ?_
          refine M_ld (a := 117) (L := 16) (nx := 104) dX8_goesStage_103 rfl (by decide) (by decide) rfl (by decide) (by omega) (hf9.2.2.1) ?_
          refine X_aload_n (nx := 105) dX8_goesStage_104 rfl rfl rfl ?_
          refine M_getP (nx := 108) dX8_goesStage_105 rfl fl_RX8_43 rfl (by first | assumption | rfl | decide | omega) (by first | assumption | rfl | decide | omega) (by first | assumption | rfl | decide | omega) ?_
          refine X_aload_n (nx := 109) dX8_goesStage_108 rfl rfl rfl ?_
          refine M_getI (nx := 112) dX8_goesStage_109 rfl fl_RX8_140 rfl (by first | assumption | rfl | decide | omega) (by first | assumption | rfl | decide | omega) ?_
          refine X_top ((up2_other (by omega)).trans htop) ?_
          refine M_ld (a := 116) (L := 16) (nx := 113) dX8_goesStage_112 rfl (by decide) (by decide) rfl (by decide) (by omega) (hf9.2.1) ?_
          refine Y_Vi2 (nx := 116) dX8_goesStage_113 rfl ml_RX8_182 kj_X8_leastEnd kv_X8_leastEnd (sp_X8_leastEnd hB9 hV ((up2_other (by omega)).trans hva) hv rfl hw rfl (by omega)) (by first | assumption | rfl | decide | omega) (by first | assumption | rfl | decide | omega) (by decide) rfl (by first | decide | omega) (by exact Nat.le_of_ble_eq_true rfl) ?_
          refine M_putI (nx := 119) dX8_goesStage_116 rfl fl_RX8_185 rfl rfl (by first | assumption | rfl | decide | omega) (by first | assumption | rfl | decide | omega) ?_
          refine X_iload_n (nx := 120) dX8_goesStage_119 rfl rfl rfl ?_
          refine X_iconst (v := 4) (nx := 121) dX8_goesStage_120 rfl rfl ?_
          refine X_icmp_ne (tgt := 150) (nx := 124) dX8_goesStage_121 rfl rfl (fun h121 => ?_) (fun h121 => ?_)
          · skip
            refine X_iload_n (nx := 151) dX8_goesStage_150 rfl rfl rfl ?_
            refine X_iconst (v := 1) (nx := 152) dX8_goesStage_151 rfl rfl ?_
            refine X_iconst (v := 3) (nx := 153) dX8_goesStage_152 rfl rfl ?_
            refine Y_Si3 (nx := 156) dX8_goesStage_153 rfl ml_RX8_115 kj_X8_isIn ks_X8_isIn (sp_X8_isIn) (by first | decide | omega) (by exact Nat.le_of_ble_eq_true rfl) ?_
            refine X_top (show _ = (0 : Int32) from by decide) ?_
            refine X_if_eq (tgt := 164) (nx := 159) dX8_goesStage_156 rfl rfl (fun h156 => ?_) (fun h156 => ?_)
            · skip
              exact Z_retv dX8_goesStage_164 rfl (by first | exact ger_y h90 | exact ger_n h90)
            · exact absurd h156 (by decide)
          · exact absurd h121 (by decide)
    · exact absurd h50 (by decide)
  · exact absurd h38 (by decide)
theorem sp_gs_rest {t R dp w a root s m : Nat} {via : Int32} {c : Bool} {L : List Nat} {v : Nat} {B : Bk} {T : Nat → Bool} {K F : Nat → Nat} {D : Mem} (h : RB D B T K F) (hV : VB B) (hK : ∀ i, i < 3 → K i ≤ 5 ∧ F i ≤ 9) (hL : LT D L) (hf : FRM D t R dp w a root s m via c) (htop : D 104 21 = nI t) (ht : t < 15) (hR : R < 3) (hdp : dp < 100) (hw : w < 1024) (ha : a ≤ L.length) (hs : s < 8) (hc : cod (K R) s = 4) (hva : D 104 24 = nI v) (hv : v < 4) : Rvx 4 j_X8_goesStage [.ref 104] D (fun D' => D' = up2 (up2 D 120 t (nI (s + 1))) 104 23 (opI (fst_ (lrP B w dp v) 0 (cm_ B)))) := by
  refine E.start 1 (ls := [some (.ref 104), none]) (by decide +kernel) (Nat.le_of_ble_eq_true rfl) rfl (Nat.le_refl _) (Nat.le_refl _) ?_
  obtain ⟨hB1, hB2, hB3⟩ := id h
  have hcm := hV.2.1
  obtain ⟨f1, f2, f3, f4, f5, f6, f7, f8, f9⟩ := id hf
  have hk6 : K R < 6 := by have := (hK R hR).1; omega
  have hB9 := h.fq (Fq.up (D := D) (a := 120) (i := t) (v := nI (s + 1)) (SCR.at (by omega)))
  have hL9 : LT (up2 D 120 t (nI (s + 1))) L := hL.fq (up2_other (by omega)) (up2_ne (by omega))
  have hf9 := hf.up (s' := s + 1)
  refine X_gs_ord (nx := 3) dX8_goesStage_0 rfl gs_RX8_170 ?_
  refine X_bipush (v := nI 8) (nx := 5) dX8_goesStage_3 rfl rfl ?_
  refine X_aload_n (nx := 6) dX8_goesStage_5 rfl rfl rfl ?_
  refine M_getP (nx := 9) dX8_goesStage_6 rfl fl_RX8_13 rfl (by first | assumption | rfl | decide | omega) (by first | assumption | rfl | decide | omega) (by first | assumption | rfl | decide | omega) ?_
  refine X_aload_n (nx := 10) dX8_goesStage_9 rfl rfl rfl ?_
  refine M_getP (nx := 13) dX8_goesStage_10 rfl fl_RX8_40 rfl (by first | assumption | rfl | decide | omega) (by first | assumption | rfl | decide | omega) (by first | assumption | rfl | decide | omega) ?_
  refine X_aload_n (nx := 14) dX8_goesStage_13 rfl rfl rfl ?_
  refine M_getI (nx := 17) dX8_goesStage_14 rfl fl_RX8_140 rfl (by first | assumption | rfl | decide | omega) (by first | assumption | rfl | decide | omega) ?_
  refine X_top (htop) ?_
  refine M_ld (a := 115) (L := 16) (nx := 18) dX8_goesStage_17 rfl (by decide) (by decide) rfl (by decide) (by omega) (f1) ?_
  refine M_ld (a := 106) (L := 3) (nx := 19) dX8_goesStage_18 rfl (by decide) (by decide) rfl (by decide) (by omega) ((hB1 R hR).1) ?_
  refine Y_Si1 (nx := 22) dX8_goesStage_19 rfl ml_RX8_173 kj_X8_orderOf ks_X8_orderOf (sp_X8_orderOf rfl hk6) (by first | decide | omega) (by exact Nat.le_of_ble_eq_true rfl) ?_
  refine X_imul (nx := 23) dX8_goesStage_22 rfl ?_
  refine X_top (mul_nI) ?_
  refine X_aload_n (nx := 24) dX8_goesStage_23 rfl rfl rfl ?_
  refine M_getP (nx := 27) dX8_goesStage_24 rfl fl_RX8_55 rfl (by first | assumption | rfl | decide | omega) (by first | assumption | rfl | decide | omega) (by first | assumption | rfl | decide | omega) ?_
  refine X_aload_n (nx := 28) dX8_goesStage_27 rfl rfl rfl ?_
  refine M_getI (nx := 31) dX8_goesStage_28 rfl fl_RX8_140 rfl (by first | assumption | rfl | decide | omega) (by first | assumption | rfl | decide | omega) ?_
  refine X_top (htop) ?_
  refine M_ld (a := 120) (L := 16) (nx := 32) dX8_goesStage_31 rfl (by decide) (by decide) rfl (by decide) (by omega) (f6) ?_
  refine X_iadd (nx := 33) dX8_goesStage_32 rfl ?_
  refine X_top (nI_add _ _) ?_
  refine M_sld (a := 2001) (n := 32) (nx := 34) dX8_goesStage_33 rfl (fun _ _ => rfl) ⟨ord_b hs, by decide⟩ (ordI _ (ord_b hs)) ?_
  refine X_top (show _ = 4 from congrArg nI hc) ?_
  refine X_istore_n (i := 1) (nx := 35) dX8_goesStage_34 rfl rfl (by decide) rfl (st_s (st_0)) ?_
  refine X_iload_n (nx := 36) dX8_goesStage_35 rfl rfl rfl ?_
  refine X_bipush (v := 6) (nx := 38) dX8_goesStage_36 rfl rfl ?_
  refine X_icmp_ne (tgt := 48) (nx := 41) dX8_goesStage_38 rfl rfl (fun h38 => ?_) (fun h38 => ?_)
  · skip
    refine X_iload_n (nx := 49) dX8_goesStage_48 rfl rfl rfl ?_
    refine X_iconst (v := 5) (nx := 50) dX8_goesStage_49 rfl rfl ?_
    refine X_icmp_ne (tgt := 60) (nx := 53) dX8_goesStage_50 rfl rfl (fun h50 => ?_) (fun h50 => ?_)
    · skip
      refine X_aload_n (nx := 61) dX8_goesStage_60 rfl rfl rfl ?_
      refine M_getP (nx := 64) dX8_goesStage_61 rfl fl_RX8_55 rfl (by first | assumption | rfl | decide | omega) (by first | assumption | rfl | decide | omega) (by first | assumption | rfl | decide | omega) ?_
      refine X_aload_n (nx := 65) dX8_goesStage_64 rfl rfl rfl ?_
      refine M_getI (nx := 68) dX8_goesStage_65 rfl fl_RX8_140 rfl (by first | assumption | rfl | decide | omega) (by first | assumption | rfl | decide | omega) ?_
      refine X_top (htop) ?_
      refine X_dup2 (nx := 69) dX8_goesStage_68 rfl rfl rfl ?_
      refine M_ld (a := 120) (L := 16) (nx := 70) dX8_goesStage_69 rfl (by decide) (by decide) rfl (by decide) (by omega) (f6) ?_
      refine X_iconst (v := 1) (nx := 71) dX8_goesStage_70 rfl rfl ?_
      refine X_iadd (nx := 72) dX8_goesStage_71 rfl ?_
      refine X_top (nI_1 _) ?_
      refine M_st (a := 120) (L := 16) (nx := 73) dX8_goesStage_72 rfl (by decide) (by decide) rfl (by decide) (by omega) ?_
      refine X_iload_n (nx := 74) dX8_goesStage_73 rfl rfl rfl ?_
      refine X_if_ne (tgt := 119) (nx := 77) dX8_goesStage_74 rfl rfl (fun h74 => ?_) (fun h74 => ?_)
      · skip
        refine X_iload_n (nx := 120) dX8_goesStage_119 rfl rfl rfl ?_
        refine X_iconst (v := 4) (nx := 121) dX8_goesStage_120 rfl rfl ?_
        refine X_icmp_ne (tgt := 150) (nx := 124) dX8_goesStage_121 rfl rfl (fun h121 => ?_) (fun h121 => ?_)
        · exact absurd h121 (by decide)
        · skip
          refine X_aload_n (nx := 125) dX8_goesStage_124 rfl rfl rfl ?_
          refine X_aload_n (nx := 126) dX8_goesStage_125 rfl rfl rfl ?_
          refine X_aload_n (nx := 127) dX8_goesStage_126 rfl rfl rfl ?_
          refine M_getP (nx := 130) dX8_goesStage_127 rfl fl_RX8_46 rfl (by first | assumption | rfl | decide | omega) (by first | assumption | rfl | decide | omega) (by first | assumption | rfl | decide | omega) ?_
          refine X_aload_n (nx := 131) dX8_goesStage_130 rfl rfl rfl ?_
          refine M_getI (nx := 134) dX8_goesStage_131 rfl fl_RX8_140 rfl (by first | assumption | rfl | decide | omega) (by first | assumption | rfl | decide | omega) ?_
          refine X_top ((up2_other (by omega)).trans htop) ?_
          refine M_ld (a := 117) (L := 16) (nx := 135) dX8_goesStage_134 rfl (by decide) (by decide) rfl (by decide) (by omega) (hf9.2.2.1) ?_
          refine X_aload_n (nx := 136) dX8_goesStage_135 rfl rfl rfl ?_
          refine M_getP (nx := 139) dX8_goesStage_136 rfl fl_RX8_43 rfl (by first | assumption | rfl | decide | omega) (by first | assumption | rfl | decide | omega) (by first | assumption | rfl | decide | omega) ?_
          refine X_aload_n (nx := 140) dX8_goesStage_139 rfl rfl rfl ?_
          refine M_getI (nx := 143) dX8_goesStage_140 rfl fl_RX8_140 rfl (by first | assumption | rfl | decide | omega) (by first | assumption | rfl | decide | omega) ?_
          refine X_top ((up2_other (by omega)).trans htop) ?_
          refine M_ld (a := 116) (L := 16) (nx := 144) dX8_goesStage_143 rfl (by decide) (by decide) rfl (by decide) (by omega) (hf9.2.1) ?_
          refine Y_Vi2 (nx := 147) dX8_goesStage_144 rfl ml_RX8_188 kj_X8_leastRest kv_X8_leastRest (sp_X8_leastRest hB9 hV ((up2_other (by omega)).trans hva) hv rfl hw rfl (by omega)) (by first | assumption | rfl | decide | omega) (by first | assumption | rfl | decide | omega) (by decide) rfl (by first | decide | omega) (by exact Nat.le_of_ble_eq_true rfl) ?_
          refine M_putI (nx := 150) dX8_goesStage_147 rfl fl_RX8_185 rfl rfl (by first | assumption | rfl | decide | omega) (by first | assumption | rfl | decide | omega) ?_
          refine X_iload_n (nx := 151) dX8_goesStage_150 rfl rfl rfl ?_
          refine X_iconst (v := 1) (nx := 152) dX8_goesStage_151 rfl rfl ?_
          refine X_iconst (v := 3) (nx := 153) dX8_goesStage_152 rfl rfl ?_
          refine Y_Si3 (nx := 156) dX8_goesStage_153 rfl ml_RX8_115 kj_X8_isIn ks_X8_isIn (sp_X8_isIn) (by first | decide | omega) (by exact Nat.le_of_ble_eq_true rfl) ?_
          refine X_top (show _ = (0 : Int32) from by decide) ?_
          refine X_if_eq (tgt := 164) (nx := 159) dX8_goesStage_156 rfl rfl (fun h156 => ?_) (fun h156 => ?_)
          · skip
            exact Z_retv dX8_goesStage_164 rfl rfl
          · exact absurd h156 (by decide)
      · exact absurd h74 (by decide)
    · exact absurd h50 (by decide)
  · exact absurd h38 (by decide)
theorem sp_gs_by1 {t R dp w a root s m : Nat} {via : Int32} {c : Bool} {L : List Nat} {B : Bk} {T : Nat → Bool} {K F : Nat → Nat} {D : Mem} (h : RB D B T K F) (hV : VB B) (hK : ∀ i, i < 3 → K i ≤ 5 ∧ F i ≤ 9) (hL : LT D L) (hf : FRM D t R dp w a root s m via c) (htop : D 104 21 = nI t) (ht : t < 15) (hR : R < 3) (hdp : dp < 100) (hw : w < 1024) (ha : a ≤ L.length) (hs : s < 8) (hc : cod (K R) s = 1) : Rvx 4 j_X8_goesStage [.ref 104] D (fun D' => GBR B K F L (up2 D 120 t (nI (s + 1))) D' t R dp w a root (L.getD a 0)) := by
  refine E.start 1 (ls := [some (.ref 104), none]) (by decide +kernel) (Nat.le_of_ble_eq_true rfl) rfl (Nat.le_refl _) (Nat.le_refl _) ?_
  obtain ⟨hB1, hB2, hB3⟩ := id h
  have hcm := hV.2.1
  obtain ⟨f1, f2, f3, f4, f5, f6, f7, f8, f9⟩ := id hf
  have hk6 : K R < 6 := by have := (hK R hR).1; omega
  have hB9 := h.fq (Fq.up (D := D) (a := 120) (i := t) (v := nI (s + 1)) (SCR.at (by omega)))
  have hL9 : LT (up2 D 120 t (nI (s + 1))) L := hL.fq (up2_other (by omega)) (up2_ne (by omega))
  have hf9 := hf.up (s' := s + 1)
  refine X_gs_ord (nx := 3) dX8_goesStage_0 rfl gs_RX8_170 ?_
  refine X_bipush (v := nI 8) (nx := 5) dX8_goesStage_3 rfl rfl ?_
  refine X_aload_n (nx := 6) dX8_goesStage_5 rfl rfl rfl ?_
  refine M_getP (nx := 9) dX8_goesStage_6 rfl fl_RX8_13 rfl (by first | assumption | rfl | decide | omega) (by first | assumption | rfl | decide | omega) (by first | assumption | rfl | decide | omega) ?_
  refine X_aload_n (nx := 10) dX8_goesStage_9 rfl rfl rfl ?_
  refine M_getP (nx := 13) dX8_goesStage_10 rfl fl_RX8_40 rfl (by first | assumption | rfl | decide | omega) (by first | assumption | rfl | decide | omega) (by first | assumption | rfl | decide | omega) ?_
  refine X_aload_n (nx := 14) dX8_goesStage_13 rfl rfl rfl ?_
  refine M_getI (nx := 17) dX8_goesStage_14 rfl fl_RX8_140 rfl (by first | assumption | rfl | decide | omega) (by first | assumption | rfl | decide | omega) ?_
  refine X_top (htop) ?_
  refine M_ld (a := 115) (L := 16) (nx := 18) dX8_goesStage_17 rfl (by decide) (by decide) rfl (by decide) (by omega) (f1) ?_
  refine M_ld (a := 106) (L := 3) (nx := 19) dX8_goesStage_18 rfl (by decide) (by decide) rfl (by decide) (by omega) ((hB1 R hR).1) ?_
  refine Y_Si1 (nx := 22) dX8_goesStage_19 rfl ml_RX8_173 kj_X8_orderOf ks_X8_orderOf (sp_X8_orderOf rfl hk6) (by first | decide | omega) (by exact Nat.le_of_ble_eq_true rfl) ?_
  refine X_imul (nx := 23) dX8_goesStage_22 rfl ?_
  refine X_top (mul_nI) ?_
  refine X_aload_n (nx := 24) dX8_goesStage_23 rfl rfl rfl ?_
  refine M_getP (nx := 27) dX8_goesStage_24 rfl fl_RX8_55 rfl (by first | assumption | rfl | decide | omega) (by first | assumption | rfl | decide | omega) (by first | assumption | rfl | decide | omega) ?_
  refine X_aload_n (nx := 28) dX8_goesStage_27 rfl rfl rfl ?_
  refine M_getI (nx := 31) dX8_goesStage_28 rfl fl_RX8_140 rfl (by first | assumption | rfl | decide | omega) (by first | assumption | rfl | decide | omega) ?_
  refine X_top (htop) ?_
  refine M_ld (a := 120) (L := 16) (nx := 32) dX8_goesStage_31 rfl (by decide) (by decide) rfl (by decide) (by omega) (f6) ?_
  refine X_iadd (nx := 33) dX8_goesStage_32 rfl ?_
  refine X_top (nI_add _ _) ?_
  refine M_sld (a := 2001) (n := 32) (nx := 34) dX8_goesStage_33 rfl (fun _ _ => rfl) ⟨ord_b hs, by decide⟩ (ordI _ (ord_b hs)) ?_
  refine X_top (show _ = 1 from congrArg nI hc) ?_
  refine X_istore_n (i := 1) (nx := 35) dX8_goesStage_34 rfl rfl (by decide) rfl (st_s (st_0)) ?_
  refine X_iload_n (nx := 36) dX8_goesStage_35 rfl rfl rfl ?_
  refine X_bipush (v := 6) (nx := 38) dX8_goesStage_36 rfl rfl ?_
  refine X_icmp_ne (tgt := 48) (nx := 41) dX8_goesStage_38 rfl rfl (fun h38 => ?_) (fun h38 => ?_)
  · skip
    refine X_iload_n (nx := 49) dX8_goesStage_48 rfl rfl rfl ?_
    refine X_iconst (v := 5) (nx := 50) dX8_goesStage_49 rfl rfl ?_
    refine X_icmp_ne (tgt := 60) (nx := 53) dX8_goesStage_50 rfl rfl (fun h50 => ?_) (fun h50 => ?_)
    · skip
      refine X_aload_n (nx := 61) dX8_goesStage_60 rfl rfl rfl ?_
      refine M_getP (nx := 64) dX8_goesStage_61 rfl fl_RX8_55 rfl (by first | assumption | rfl | decide | omega) (by first | assumption | rfl | decide | omega) (by first | assumption | rfl | decide | omega) ?_
      refine X_aload_n (nx := 65) dX8_goesStage_64 rfl rfl rfl ?_
      refine M_getI (nx := 68) dX8_goesStage_65 rfl fl_RX8_140 rfl (by first | assumption | rfl | decide | omega) (by first | assumption | rfl | decide | omega) ?_
      refine X_top (htop) ?_
      refine X_dup2 (nx := 69) dX8_goesStage_68 rfl rfl rfl ?_
      refine M_ld (a := 120) (L := 16) (nx := 70) dX8_goesStage_69 rfl (by decide) (by decide) rfl (by decide) (by omega) (f6) ?_
      refine X_iconst (v := 1) (nx := 71) dX8_goesStage_70 rfl rfl ?_
      refine X_iadd (nx := 72) dX8_goesStage_71 rfl ?_
      refine X_top (nI_1 _) ?_
      refine M_st (a := 120) (L := 16) (nx := 73) dX8_goesStage_72 rfl (by decide) (by decide) rfl (by decide) (by omega) ?_
      refine X_iload_n (nx := 74) dX8_goesStage_73 rfl rfl rfl ?_
      refine X_if_ne (tgt := 119) (nx := 77) dX8_goesStage_74 rfl rfl (fun h74 => ?_) (fun h74 => ?_)
      · skip
        refine X_iload_n (nx := 120) dX8_goesStage_119 rfl rfl rfl ?_
        refine X_iconst (v := 4) (nx := 121) dX8_goesStage_120 rfl rfl ?_
        refine X_icmp_ne (tgt := 150) (nx := 124) dX8_goesStage_121 rfl rfl (fun h121 => ?_) (fun h121 => ?_)
        · skip
          refine X_iload_n (nx := 151) dX8_goesStage_150 rfl rfl rfl ?_
          refine X_iconst (v := 1) (nx := 152) dX8_goesStage_151 rfl rfl ?_
          refine X_iconst (v := 3) (nx := 153) dX8_goesStage_152 rfl rfl ?_
          refine Y_Si3 (nx := 156) dX8_goesStage_153 rfl ml_RX8_115 kj_X8_isIn ks_X8_isIn (sp_X8_isIn) (by first | decide | omega) (by exact Nat.le_of_ble_eq_true rfl) ?_
          refine X_top (show _ = (1 : Int32) from by decide) ?_
          refine X_if_eq (tgt := 164) (nx := 159) dX8_goesStage_156 rfl rfl (fun h156 => ?_) (fun h156 => ?_)
          · exact absurd h156 (by decide)
          · skip
            refine X_aload_n (nx := 160) dX8_goesStage_159 rfl rfl rfl ?_
            refine X_iload_n (nx := 161) dX8_goesStage_160 rfl rfl rfl ?_
            refine Z_Vv1 (nx := 164) dX8_goesStage_161 rfl ml_RX8_191 kj_X8_goesBy kv_X8_goesBy (sp_X8_goesBy1 hB9 hV hK hL9 hf9 ((up2_other (by omega)).trans htop) ht hR hdp hw ha (by omega) rfl) (by first | assumption | rfl | decide | omega) (by first | assumption | rfl | decide | omega) (by decide) rfl (by first | decide | omega) (by exact Nat.le_of_ble_eq_true rfl) (fun D161 g161 => ?_)
            exact Z_retv dX8_goesStage_164 rfl g161
        · exact absurd h121 (by decide)
      · exact absurd h74 (by decide)
    · exact absurd h50 (by decide)
  · exact absurd h38 (by decide)
theorem sp_gs_by2 {t R dp w a root s m : Nat} {via : Int32} {c : Bool} {L : List Nat} {B : Bk} {T : Nat → Bool} {K F : Nat → Nat} {D : Mem} (h : RB D B T K F) (hV : VB B) (hK : ∀ i, i < 3 → K i ≤ 5 ∧ F i ≤ 9) (hL : LT D L) (hf : FRM D t R dp w a root s m via c) (htop : D 104 21 = nI t) (ht : t < 15) (hR : R < 3) (hdp : dp < 100) (hw : w < 1024) (ha : a ≤ L.length) (hs : s < 8) (hc : cod (K R) s = 2) : Rvx 4 j_X8_goesStage [.ref 104] D (fun D' => GBR B K F L (up2 D 120 t (nI (s + 1))) D' t R dp w a root ((if L.getD a 0 < 2 then 4 else 5))) := by
  refine E.start 1 (ls := [some (.ref 104), none]) (by decide +kernel) (Nat.le_of_ble_eq_true rfl) rfl (Nat.le_refl _) (Nat.le_refl _) ?_
  obtain ⟨hB1, hB2, hB3⟩ := id h
  have hcm := hV.2.1
  obtain ⟨f1, f2, f3, f4, f5, f6, f7, f8, f9⟩ := id hf
  have hk6 : K R < 6 := by have := (hK R hR).1; omega
  have hB9 := h.fq (Fq.up (D := D) (a := 120) (i := t) (v := nI (s + 1)) (SCR.at (by omega)))
  have hL9 : LT (up2 D 120 t (nI (s + 1))) L := hL.fq (up2_other (by omega)) (up2_ne (by omega))
  have hf9 := hf.up (s' := s + 1)
  refine X_gs_ord (nx := 3) dX8_goesStage_0 rfl gs_RX8_170 ?_
  refine X_bipush (v := nI 8) (nx := 5) dX8_goesStage_3 rfl rfl ?_
  refine X_aload_n (nx := 6) dX8_goesStage_5 rfl rfl rfl ?_
  refine M_getP (nx := 9) dX8_goesStage_6 rfl fl_RX8_13 rfl (by first | assumption | rfl | decide | omega) (by first | assumption | rfl | decide | omega) (by first | assumption | rfl | decide | omega) ?_
  refine X_aload_n (nx := 10) dX8_goesStage_9 rfl rfl rfl ?_
  refine M_getP (nx := 13) dX8_goesStage_10 rfl fl_RX8_40 rfl (by first | assumption | rfl | decide | omega) (by first | assumption | rfl | decide | omega) (by first | assumption | rfl | decide | omega) ?_
  refine X_aload_n (nx := 14) dX8_goesStage_13 rfl rfl rfl ?_
  refine M_getI (nx := 17) dX8_goesStage_14 rfl fl_RX8_140 rfl (by first | assumption | rfl | decide | omega) (by first | assumption | rfl | decide | omega) ?_
  refine X_top (htop) ?_
  refine M_ld (a := 115) (L := 16) (nx := 18) dX8_goesStage_17 rfl (by decide) (by decide) rfl (by decide) (by omega) (f1) ?_
  refine M_ld (a := 106) (L := 3) (nx := 19) dX8_goesStage_18 rfl (by decide) (by decide) rfl (by decide) (by omega) ((hB1 R hR).1) ?_
  refine Y_Si1 (nx := 22) dX8_goesStage_19 rfl ml_RX8_173 kj_X8_orderOf ks_X8_orderOf (sp_X8_orderOf rfl hk6) (by first | decide | omega) (by exact Nat.le_of_ble_eq_true rfl) ?_
  refine X_imul (nx := 23) dX8_goesStage_22 rfl ?_
  refine X_top (mul_nI) ?_
  refine X_aload_n (nx := 24) dX8_goesStage_23 rfl rfl rfl ?_
  refine M_getP (nx := 27) dX8_goesStage_24 rfl fl_RX8_55 rfl (by first | assumption | rfl | decide | omega) (by first | assumption | rfl | decide | omega) (by first | assumption | rfl | decide | omega) ?_
  refine X_aload_n (nx := 28) dX8_goesStage_27 rfl rfl rfl ?_
  refine M_getI (nx := 31) dX8_goesStage_28 rfl fl_RX8_140 rfl (by first | assumption | rfl | decide | omega) (by first | assumption | rfl | decide | omega) ?_
  refine X_top (htop) ?_
  refine M_ld (a := 120) (L := 16) (nx := 32) dX8_goesStage_31 rfl (by decide) (by decide) rfl (by decide) (by omega) (f6) ?_
  refine X_iadd (nx := 33) dX8_goesStage_32 rfl ?_
  refine X_top (nI_add _ _) ?_
  refine M_sld (a := 2001) (n := 32) (nx := 34) dX8_goesStage_33 rfl (fun _ _ => rfl) ⟨ord_b hs, by decide⟩ (ordI _ (ord_b hs)) ?_
  refine X_top (show _ = 2 from congrArg nI hc) ?_
  refine X_istore_n (i := 1) (nx := 35) dX8_goesStage_34 rfl rfl (by decide) rfl (st_s (st_0)) ?_
  refine X_iload_n (nx := 36) dX8_goesStage_35 rfl rfl rfl ?_
  refine X_bipush (v := 6) (nx := 38) dX8_goesStage_36 rfl rfl ?_
  refine X_icmp_ne (tgt := 48) (nx := 41) dX8_goesStage_38 rfl rfl (fun h38 => ?_) (fun h38 => ?_)
  · skip
    refine X_iload_n (nx := 49) dX8_goesStage_48 rfl rfl rfl ?_
    refine X_iconst (v := 5) (nx := 50) dX8_goesStage_49 rfl rfl ?_
    refine X_icmp_ne (tgt := 60) (nx := 53) dX8_goesStage_50 rfl rfl (fun h50 => ?_) (fun h50 => ?_)
    · skip
      refine X_aload_n (nx := 61) dX8_goesStage_60 rfl rfl rfl ?_
      refine M_getP (nx := 64) dX8_goesStage_61 rfl fl_RX8_55 rfl (by first | assumption | rfl | decide | omega) (by first | assumption | rfl | decide | omega) (by first | assumption | rfl | decide | omega) ?_
      refine X_aload_n (nx := 65) dX8_goesStage_64 rfl rfl rfl ?_
      refine M_getI (nx := 68) dX8_goesStage_65 rfl fl_RX8_140 rfl (by first | assumption | rfl | decide | omega) (by first | assumption | rfl | decide | omega) ?_
      refine X_top (htop) ?_
      refine X_dup2 (nx := 69) dX8_goesStage_68 rfl rfl rfl ?_
      refine M_ld (a := 120) (L := 16) (nx := 70) dX8_goesStage_69 rfl (by decide) (by decide) rfl (by decide) (by omega) (f6) ?_
      refine X_iconst (v := 1) (nx := 71) dX8_goesStage_70 rfl rfl ?_
      refine X_iadd (nx := 72) dX8_goesStage_71 rfl ?_
      refine X_top (nI_1 _) ?_
      refine M_st (a := 120) (L := 16) (nx := 73) dX8_goesStage_72 rfl (by decide) (by decide) rfl (by decide) (by omega) ?_
      refine X_iload_n (nx := 74) dX8_goesStage_73 rfl rfl rfl ?_
      refine X_if_ne (tgt := 119) (nx := 77) dX8_goesStage_74 rfl rfl (fun h74 => ?_) (fun h74 => ?_)
      · skip
        refine X_iload_n (nx := 120) dX8_goesStage_119 rfl rfl rfl ?_
        refine X_iconst (v := 4) (nx := 121) dX8_goesStage_120 rfl rfl ?_
        refine X_icmp_ne (tgt := 150) (nx := 124) dX8_goesStage_121 rfl rfl (fun h121 => ?_) (fun h121 => ?_)
        · skip
          refine X_iload_n (nx := 151) dX8_goesStage_150 rfl rfl rfl ?_
          refine X_iconst (v := 1) (nx := 152) dX8_goesStage_151 rfl rfl ?_
          refine X_iconst (v := 3) (nx := 153) dX8_goesStage_152 rfl rfl ?_
          refine Y_Si3 (nx := 156) dX8_goesStage_153 rfl ml_RX8_115 kj_X8_isIn ks_X8_isIn (sp_X8_isIn) (by first | decide | omega) (by exact Nat.le_of_ble_eq_true rfl) ?_
          refine X_top (show _ = (1 : Int32) from by decide) ?_
          refine X_if_eq (tgt := 164) (nx := 159) dX8_goesStage_156 rfl rfl (fun h156 => ?_) (fun h156 => ?_)
          · exact absurd h156 (by decide)
          · skip
            refine X_aload_n (nx := 160) dX8_goesStage_159 rfl rfl rfl ?_
            refine X_iload_n (nx := 161) dX8_goesStage_160 rfl rfl rfl ?_
            refine Z_Vv1 (nx := 164) dX8_goesStage_161 rfl ml_RX8_191 kj_X8_goesBy kv_X8_goesBy (sp_X8_goesBy2 hB9 hV hK hL9 hf9 ((up2_other (by omega)).trans htop) ht hR hdp hw ha (by omega) rfl) (by first | assumption | rfl | decide | omega) (by first | assumption | rfl | decide | omega) (by decide) rfl (by first | decide | omega) (by exact Nat.le_of_ble_eq_true rfl) (fun D161 g161 => ?_)
            exact Z_retv dX8_goesStage_164 rfl g161
        · exact absurd h121 (by decide)
      · exact absurd h74 (by decide)
    · exact absurd h50 (by decide)
  · exact absurd h38 (by decide)
theorem sp_gs_by3 {t R dp w a root s m : Nat} {via : Int32} {c : Bool} {L : List Nat} {B : Bk} {T : Nat → Bool} {K F : Nat → Nat} {D : Mem} (h : RB D B T K F) (hV : VB B) (hK : ∀ i, i < 3 → K i ≤ 5 ∧ F i ≤ 9) (hL : LT D L) (hf : FRM D t R dp w a root s m via c) (htop : D 104 21 = nI t) (ht : t < 15) (hR : R < 3) (hdp : dp < 100) (hw : w < 1024) (ha : a ≤ L.length) (hs : s < 8) (hc : cod (K R) s = 3) : Rvx 4 j_X8_goesStage [.ref 104] D (fun D' => GBR B K F L (up2 D 120 t (nI (s + 1))) D' t R dp w a root (6)) := by
  refine E.start 1 (ls := [some (.ref 104), none]) (by decide +kernel) (Nat.le_of_ble_eq_true rfl) rfl (Nat.le_refl _) (Nat.le_refl _) ?_
  obtain ⟨hB1, hB2, hB3⟩ := id h
  have hcm := hV.2.1
  obtain ⟨f1, f2, f3, f4, f5, f6, f7, f8, f9⟩ := id hf
  have hk6 : K R < 6 := by have := (hK R hR).1; omega
  have hB9 := h.fq (Fq.up (D := D) (a := 120) (i := t) (v := nI (s + 1)) (SCR.at (by omega)))
  have hL9 : LT (up2 D 120 t (nI (s + 1))) L := hL.fq (up2_other (by omega)) (up2_ne (by omega))
  have hf9 := hf.up (s' := s + 1)
  refine X_gs_ord (nx := 3) dX8_goesStage_0 rfl gs_RX8_170 ?_
  refine X_bipush (v := nI 8) (nx := 5) dX8_goesStage_3 rfl rfl ?_
  refine X_aload_n (nx := 6) dX8_goesStage_5 rfl rfl rfl ?_
  refine M_getP (nx := 9) dX8_goesStage_6 rfl fl_RX8_13 rfl (by first | assumption | rfl | decide | omega) (by first | assumption | rfl | decide | omega) (by first | assumption | rfl | decide | omega) ?_
  refine X_aload_n (nx := 10) dX8_goesStage_9 rfl rfl rfl ?_
  refine M_getP (nx := 13) dX8_goesStage_10 rfl fl_RX8_40 rfl (by first | assumption | rfl | decide | omega) (by first | assumption | rfl | decide | omega) (by first | assumption | rfl | decide | omega) ?_
  refine X_aload_n (nx := 14) dX8_goesStage_13 rfl rfl rfl ?_
  refine M_getI (nx := 17) dX8_goesStage_14 rfl fl_RX8_140 rfl (by first | assumption | rfl | decide | omega) (by first | assumption | rfl | decide | omega) ?_
  refine X_top (htop) ?_
  refine M_ld (a := 115) (L := 16) (nx := 18) dX8_goesStage_17 rfl (by decide) (by decide) rfl (by decide) (by omega) (f1) ?_
  refine M_ld (a := 106) (L := 3) (nx := 19) dX8_goesStage_18 rfl (by decide) (by decide) rfl (by decide) (by omega) ((hB1 R hR).1) ?_
  refine Y_Si1 (nx := 22) dX8_goesStage_19 rfl ml_RX8_173 kj_X8_orderOf ks_X8_orderOf (sp_X8_orderOf rfl hk6) (by first | decide | omega) (by exact Nat.le_of_ble_eq_true rfl) ?_
  refine X_imul (nx := 23) dX8_goesStage_22 rfl ?_
  refine X_top (mul_nI) ?_
  refine X_aload_n (nx := 24) dX8_goesStage_23 rfl rfl rfl ?_
  refine M_getP (nx := 27) dX8_goesStage_24 rfl fl_RX8_55 rfl (by first | assumption | rfl | decide | omega) (by first | assumption | rfl | decide | omega) (by first | assumption | rfl | decide | omega) ?_
  refine X_aload_n (nx := 28) dX8_goesStage_27 rfl rfl rfl ?_
  refine M_getI (nx := 31) dX8_goesStage_28 rfl fl_RX8_140 rfl (by first | assumption | rfl | decide | omega) (by first | assumption | rfl | decide | omega) ?_
  refine X_top (htop) ?_
  refine M_ld (a := 120) (L := 16) (nx := 32) dX8_goesStage_31 rfl (by decide) (by decide) rfl (by decide) (by omega) (f6) ?_
  refine X_iadd (nx := 33) dX8_goesStage_32 rfl ?_
  refine X_top (nI_add _ _) ?_
  refine M_sld (a := 2001) (n := 32) (nx := 34) dX8_goesStage_33 rfl (fun _ _ => rfl) ⟨ord_b hs, by decide⟩ (ordI _ (ord_b hs)) ?_
  refine X_top (show _ = 3 from congrArg nI hc) ?_
  refine X_istore_n (i := 1) (nx := 35) dX8_goesStage_34 rfl rfl (by decide) rfl (st_s (st_0)) ?_
  refine X_iload_n (nx := 36) dX8_goesStage_35 rfl rfl rfl ?_
  refine X_bipush (v := 6) (nx := 38) dX8_goesStage_36 rfl rfl ?_
  refine X_icmp_ne (tgt := 48) (nx := 41) dX8_goesStage_38 rfl rfl (fun h38 => ?_) (fun h38 => ?_)
  · skip
    refine X_iload_n (nx := 49) dX8_goesStage_48 rfl rfl rfl ?_
    refine X_iconst (v := 5) (nx := 50) dX8_goesStage_49 rfl rfl ?_
    refine X_icmp_ne (tgt := 60) (nx := 53) dX8_goesStage_50 rfl rfl (fun h50 => ?_) (fun h50 => ?_)
    · skip
      refine X_aload_n (nx := 61) dX8_goesStage_60 rfl rfl rfl ?_
      refine M_getP (nx := 64) dX8_goesStage_61 rfl fl_RX8_55 rfl (by first | assumption | rfl | decide | omega) (by first | assumption | rfl | decide | omega) (by first | assumption | rfl | decide | omega) ?_
      refine X_aload_n (nx := 65) dX8_goesStage_64 rfl rfl rfl ?_
      refine M_getI (nx := 68) dX8_goesStage_65 rfl fl_RX8_140 rfl (by first | assumption | rfl | decide | omega) (by first | assumption | rfl | decide | omega) ?_
      refine X_top (htop) ?_
      refine X_dup2 (nx := 69) dX8_goesStage_68 rfl rfl rfl ?_
      refine M_ld (a := 120) (L := 16) (nx := 70) dX8_goesStage_69 rfl (by decide) (by decide) rfl (by decide) (by omega) (f6) ?_
      refine X_iconst (v := 1) (nx := 71) dX8_goesStage_70 rfl rfl ?_
      refine X_iadd (nx := 72) dX8_goesStage_71 rfl ?_
      refine X_top (nI_1 _) ?_
      refine M_st (a := 120) (L := 16) (nx := 73) dX8_goesStage_72 rfl (by decide) (by decide) rfl (by decide) (by omega) ?_
      refine X_iload_n (nx := 74) dX8_goesStage_73 rfl rfl rfl ?_
      refine X_if_ne (tgt := 119) (nx := 77) dX8_goesStage_74 rfl rfl (fun h74 => ?_) (fun h74 => ?_)
      · skip
        refine X_iload_n (nx := 120) dX8_goesStage_119 rfl rfl rfl ?_
        refine X_iconst (v := 4) (nx := 121) dX8_goesStage_120 rfl rfl ?_
        refine X_icmp_ne (tgt := 150) (nx := 124) dX8_goesStage_121 rfl rfl (fun h121 => ?_) (fun h121 => ?_)
        · skip
          refine X_iload_n (nx := 151) dX8_goesStage_150 rfl rfl rfl ?_
          refine X_iconst (v := 1) (nx := 152) dX8_goesStage_151 rfl rfl ?_
          refine X_iconst (v := 3) (nx := 153) dX8_goesStage_152 rfl rfl ?_
          refine Y_Si3 (nx := 156) dX8_goesStage_153 rfl ml_RX8_115 kj_X8_isIn ks_X8_isIn (sp_X8_isIn) (by first | decide | omega) (by exact Nat.le_of_ble_eq_true rfl) ?_
          refine X_top (show _ = (1 : Int32) from by decide) ?_
          refine X_if_eq (tgt := 164) (nx := 159) dX8_goesStage_156 rfl rfl (fun h156 => ?_) (fun h156 => ?_)
          · exact absurd h156 (by decide)
          · skip
            refine X_aload_n (nx := 160) dX8_goesStage_159 rfl rfl rfl ?_
            refine X_iload_n (nx := 161) dX8_goesStage_160 rfl rfl rfl ?_
            refine Z_Vv1 (nx := 164) dX8_goesStage_161 rfl ml_RX8_191 kj_X8_goesBy kv_X8_goesBy (sp_X8_goesBy3 hB9 hV hK hL9 hf9 ((up2_other (by omega)).trans htop) ht hR hdp hw ha (by omega) rfl) (by first | assumption | rfl | decide | omega) (by first | assumption | rfl | decide | omega) (by decide) rfl (by first | decide | omega) (by exact Nat.le_of_ble_eq_true rfl) (fun D161 g161 => ?_)
            exact Z_retv dX8_goesStage_164 rfl g161
        · exact absurd h121 (by decide)
      · exact absurd h74 (by decide)
    · exact absurd h50 (by decide)
  · exact absurd h38 (by decide)
