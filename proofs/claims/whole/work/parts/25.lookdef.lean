section EB
variable {RS EN : Nd → Nat → Bool} {SV : Nat → Nat → Bool} {q : Nd} {w v s a : Nat} {L : List Nat}
theorem eb_R (hs : s = 82) : fst_ (mkn (RS q) 10 &&& w &&& mkn (SV v) 10).testBit 0 10 = ebF RS EN SV q w v L s a :=
  fst_congr fun r _ hr => by rw [and3m r (by omega), if_pos hs]
theorem eb_E (hs : ¬ s = 82) (h2 : s = 69) (h3 : a = L.length) : fst_ (mkn (EN q) 10 &&& w &&& mkn (SV v) 10).testBit 0 10 = ebF RS EN SV q w v L s a :=
  fst_congr fun r _ hr => by rw [and3m r (by omega), if_neg hs, if_pos ⟨h2, h3⟩]
theorem eb_0 (hs : ¬ s = 82) (h : ¬ (s = 69 ∧ a = L.length)) : fst_ (mkn (fun _ => false) 10 &&& w &&& mkn (SV v) 10).testBit 0 10 = ebF RS EN SV q w v L s a :=
  fst_congr fun r _ hr => by rw [and3m r (by omega), if_neg hs, if_neg h]
theorem and_lt10 {p : Nat → Bool} {x y : Nat} : mkn p 10 &&& x &&& y < 1024 := Nat.lt_of_le_of_lt (Nat.le_trans Nat.and_le_left Nat.and_le_left) (mkn_lt p 10)
theorem z_mk : (0 : Int32) = nI (mkn (fun _ => false) 10) := by decide
end EB
theorem dX6_endBy_0 : decode cX6_endBy 0 = .ok (.iconst 0, 1) := by decide +kernel
theorem dX6_endBy_1 : decode cX6_endBy 1 = .ok (.istore 5, 2) := by decide +kernel
theorem dX6_endBy_3 : decode cX6_endBy 3 = .ok (.iload_n 1, 1) := by decide +kernel
theorem dX6_endBy_4 : decode cX6_endBy 4 = .ok (.bipush 82, 2) := by decide +kernel
theorem dX6_endBy_6 : decode cX6_endBy 6 = .ok (.if_icmp .ne 19, 3) := by decide +kernel
theorem dX6_endBy_9 : decode cX6_endBy 9 = .ok (.aload_n 0, 1) := by decide +kernel
theorem dX6_endBy_10 : decode cX6_endBy 10 = .ok (.getfield 12, 3) := by decide +kernel
theorem dX6_endBy_13 : decode cX6_endBy 13 = .ok (.getfield 121, 3) := by decide +kernel
theorem dX6_endBy_16 : decode cX6_endBy 16 = .ok (.iload_n 2, 1) := by decide +kernel
theorem dX6_endBy_17 : decode cX6_endBy 17 = .ok (.invokestatic 67, 3) := by decide +kernel
theorem dX6_endBy_20 : decode cX6_endBy 20 = .ok (.istore 5, 2) := by decide +kernel
theorem dX6_endBy_22 : decode cX6_endBy 22 = .ok (.goto 33, 3) := by decide +kernel
theorem dX6_endBy_25 : decode cX6_endBy 25 = .ok (.iload_n 1, 1) := by decide +kernel
theorem dX6_endBy_26 : decode cX6_endBy 26 = .ok (.bipush 69, 2) := by decide +kernel
theorem dX6_endBy_28 : decode cX6_endBy 28 = .ok (.if_icmp .ne 27, 3) := by decide +kernel
theorem dX6_endBy_31 : decode cX6_endBy 31 = .ok (.iload_n 3, 1) := by decide +kernel
theorem dX6_endBy_32 : decode cX6_endBy 32 = .ok (.aload_n 0, 1) := by decide +kernel
theorem dX6_endBy_33 : decode cX6_endBy 33 = .ok (.getfield 23, 3) := by decide +kernel
theorem dX6_endBy_36 : decode cX6_endBy 36 = .ok (.getfield 74, 3) := by decide +kernel
theorem dX6_endBy_39 : decode cX6_endBy 39 = .ok (.if_icmp .ne 16, 3) := by decide +kernel
theorem dX6_endBy_42 : decode cX6_endBy 42 = .ok (.aload_n 0, 1) := by decide +kernel
theorem dX6_endBy_43 : decode cX6_endBy 43 = .ok (.getfield 12, 3) := by decide +kernel
theorem dX6_endBy_46 : decode cX6_endBy 46 = .ok (.getfield 124, 3) := by decide +kernel
theorem dX6_endBy_49 : decode cX6_endBy 49 = .ok (.iload_n 2, 1) := by decide +kernel
theorem dX6_endBy_50 : decode cX6_endBy 50 = .ok (.invokestatic 67, 3) := by decide +kernel
theorem dX6_endBy_53 : decode cX6_endBy 53 = .ok (.istore 5, 2) := by decide +kernel
theorem dX6_endBy_55 : decode cX6_endBy 55 = .ok (.iload 5, 2) := by decide +kernel
theorem dX6_endBy_57 : decode cX6_endBy 57 = .ok (.aload_n 0, 1) := by decide +kernel
theorem dX6_endBy_58 : decode cX6_endBy 58 = .ok (.getfield 44, 3) := by decide +kernel
theorem dX6_endBy_61 : decode cX6_endBy 61 = .ok (.iand, 1) := by decide +kernel
theorem dX6_endBy_62 : decode cX6_endBy 62 = .ok (.aload_n 0, 1) := by decide +kernel
theorem dX6_endBy_63 : decode cX6_endBy 63 = .ok (.getfield 12, 3) := by decide +kernel
theorem dX6_endBy_66 : decode cX6_endBy 66 = .ok (.getfield 127, 3) := by decide +kernel
theorem dX6_endBy_69 : decode cX6_endBy 69 = .ok (.aload_n 0, 1) := by decide +kernel
theorem dX6_endBy_70 : decode cX6_endBy 70 = .ok (.getfield 40, 3) := by decide +kernel
theorem dX6_endBy_73 : decode cX6_endBy 73 = .ok (.invokestatic 67, 3) := by decide +kernel
theorem dX6_endBy_76 : decode cX6_endBy 76 = .ok (.iand, 1) := by decide +kernel
theorem dX6_endBy_77 : decode cX6_endBy 77 = .ok (.invokestatic 130, 3) := by decide +kernel
theorem dX6_endBy_80 : decode cX6_endBy 80 = .ok (.istore 6, 2) := by decide +kernel
theorem dX6_endBy_82 : decode cX6_endBy 82 = .ok (.iload 6, 2) := by decide +kernel
theorem dX6_endBy_84 : decode cX6_endBy 84 = .ok (.ifCond .lt 22, 3) := by decide +kernel
theorem dX6_endBy_87 : decode cX6_endBy 87 = .ok (.aload_n 0, 1) := by decide +kernel
theorem dX6_endBy_88 : decode cX6_endBy 88 = .ok (.iload 4, 2) := by decide +kernel
theorem dX6_endBy_90 : decode cX6_endBy 90 = .ok (.putfield 133, 3) := by decide +kernel
theorem dX6_endBy_93 : decode cX6_endBy 93 = .ok (.aload_n 0, 1) := by decide +kernel
theorem dX6_endBy_94 : decode cX6_endBy 94 = .ok (.aload_n 0, 1) := by decide +kernel
theorem dX6_endBy_95 : decode cX6_endBy 95 = .ok (.getfield 23, 3) := by decide +kernel
theorem dX6_endBy_98 : decode cX6_endBy 98 = .ok (.getfield 74, 3) := by decide +kernel
theorem dX6_endBy_101 : decode cX6_endBy 101 = .ok (.iload_n 3, 1) := by decide +kernel
theorem dX6_endBy_102 : decode cX6_endBy 102 = .ok (.isub, 1) := by decide +kernel
theorem dX6_endBy_103 : decode cX6_endBy 103 = .ok (.putfield 135, 3) := by decide +kernel
theorem dX6_endBy_106 : decode cX6_endBy 106 = .ok (.iload 6, 2) := by decide +kernel
theorem dX6_endBy_108 : decode cX6_endBy 108 = .ok (.ireturn, 1) := by decide +kernel
theorem sp_X6_endBy {B : Bk} {nl : List Nd} {PS EN RS MN : Nd → Nat → Bool} {SV : Nat → Nat → Bool} {MO : Nat → Bool} {L : List Nat} {w v j s a ms : Nat} {x y z t : Int32} {D : Mem} (h : TE D B nl PS EN RS MN SV MO) (hL : LET D 92 L) (hw : D 79 5 = nI w) (hv0 : D 79 4 = nI v) (hv : v < 4) (hj : j < nl.length) (hx : x = nI s) (hs : s < 128) (hy : y = nI j) (hz : z = nI a) (ha : a ≤ L.length) (ht : t = nI ms) : Ei 3 j_X6_endBy [.ref 79, .int x, .int y, .int z, .int t] D (opI (ebF RS EN SV (ng nl j) w v L s a)) (ebD D (ebF RS EN SV (ng nl j) w v L s a) ms (L.length - a)) := by
  refine E.start 2 (ls := [some (.ref 79), some (.int x), some (.int y), some (.int z), some (.int t), none, none]) (by decide +kernel) (Nat.le_of_ble_eq_true rfl) rfl (Nat.le_refl _) (Nat.le_refl _) ?_
  subst hx; subst hy; subst hz; subst ht
  have hp : isPa 92 := Or.inl rfl
  have hb := hL.1
  have hn43 := h.2.1.2.1
  have hly : (lay 82).2 = 43 ∧ (lay 83).2 = 43 ∧ (lay 84).2 = 43 ∧ (lay 85).2 = 43 ∧ (lay 86).2 = 43 ∧ (lay 81).2 = 301 ∧ (lay 87).2 = 10 ∧ (lay 88).2 = 4 ∧ (lay 89).2 = 3 ∧ (lay 90).2 = 3 ∧ (lay 91).2 = 3 ∧ (lay 94).2 = 3 ∧ (lay 95).2 = 3 := by decide
  obtain ⟨n1, n2, n3, n4, n5, n6⟩ := h.2.2.1 j hj
  refine X_iconst (v := 0) (nx := 1) dX6_endBy_0 rfl rfl ?_
  refine X_istore (i := 5) (nx := 3) dX6_endBy_1 rfl (by decide) rfl (st_s (st_s (st_s (st_s (st_s (st_0)))))) ?_
  refine X_iload_n (nx := 4) dX6_endBy_3 rfl rfl rfl ?_
  refine X_bipush (v := nI 82) (nx := 6) dX6_endBy_4 rfl rfl ?_
  refine X_icmp_ne (tgt := 25) (nx := 9) dX6_endBy_6 rfl rfl (fun h6 => ?_) (fun h6 => ?_)
  · skip
    rw [nI_eq (by omega) (by omega)] at h6
    refine X_iload_n (nx := 26) dX6_endBy_25 rfl rfl rfl ?_
    refine X_bipush (v := nI 69) (nx := 28) dX6_endBy_26 rfl rfl ?_
    refine X_icmp_ne (tgt := 55) (nx := 31) dX6_endBy_28 rfl rfl (fun h28 => ?_) (fun h28 => ?_)
    · skip
      rw [nI_eq (by omega) (by omega)] at h28
      refine X_iload (nx := 57) dX6_endBy_55 rfl rfl ?_
      refine X_top ((by first | exact z_mk | rfl)) ?_
      refine X_aload_n (nx := 58) dX6_endBy_57 rfl rfl rfl ?_
      refine M_getI (nx := 61) dX6_endBy_58 rfl fl_RX6_44 rfl (by first | assumption | rfl | decide | omega) (by first | assumption | rfl | decide | omega) ?_
      refine X_top (hw) ?_
      refine X_iand (nx := 62) dX6_endBy_61 rfl ?_
      refine X_top (nI_and _ _) ?_
      refine X_aload_n (nx := 63) dX6_endBy_62 rfl rfl rfl ?_
      refine M_getP (nx := 66) dX6_endBy_63 rfl fl_RX6_12 rfl (by first | assumption | rfl | decide | omega) (by first | assumption | rfl | decide | omega) (by first | assumption | rfl | decide | omega) ?_
      refine M_getP (nx := 69) dX6_endBy_66 rfl fl_RX6_127 rfl (by first | assumption | rfl | decide | omega) (by first | assumption | rfl | decide | omega) (by first | assumption | rfl | decide | omega) ?_
      refine X_aload_n (nx := 70) dX6_endBy_69 rfl rfl rfl ?_
      refine M_getI (nx := 73) dX6_endBy_70 rfl fl_RX6_40 rfl (by first | assumption | rfl | decide | omega) (by first | assumption | rfl | decide | omega) ?_
      refine Y_Si2 (nx := 76) dX6_endBy_73 rfl ml_RX6_67 kj_X7_numberAt ks_X7_numberAt (sp_X7_numberAt (i := v) (by decide) (by decide) hv0 (by omega)) (by first | decide | omega) (by exact Nat.le_of_ble_eq_true rfl) ?_
      refine X_top (h.2.2.2.1 v hv) ?_
      refine X_iand (nx := 77) dX6_endBy_76 rfl ?_
      refine X_top (nI_and _ _) ?_
      refine Y_Si1 (nx := 80) dX6_endBy_77 rfl ml_RX6_130 kj_X7_leastOf ks_X7_leastOf (sp_X7_leastOf rfl and_lt10) (by first | decide | omega) (by exact Nat.le_of_ble_eq_true rfl) ?_
      refine X_istore (i := 6) (nx := 82) dX6_endBy_80 rfl (by decide) rfl (st_s (st_s (st_s (st_s (st_s (st_s (st_0))))))) ?_
      refine X_iload (nx := 84) dX6_endBy_82 rfl rfl ?_
      refine X_if_lt (tgt := 106) (nx := 87) dX6_endBy_84 rfl rfl (fun h84 => ?_) (fun h84 => ?_)
      · skip
        have hn := opI_lt h84 (fun k hk => by have := (fst_some hk).2.1; omega)
        have he : ebF RS EN SV (ng nl j) w v L s a = none := by first | exact (eb_R h6).symm.trans hn | exact (eb_E h6 h28 h39).symm.trans hn | exact (eb_0 h6 (fun q => h39 q.2)).symm.trans hn | exact (eb_0 h6 (fun q => h28 q.1)).symm.trans hn
        rw [he, hn]
        refine X_iload (nx := 108) dX6_endBy_106 rfl rfl ?_
        exact Y_reti dX6_endBy_108 (Or.inl rfl) rfl rfl
      · skip
        obtain ⟨k, hk⟩ := Option.isSome_iff_exists.mp (opI_ge h84)
        have he : ebF RS EN SV (ng nl j) w v L s a = some k := by first | exact (eb_R h6).symm.trans hk | exact (eb_E h6 h28 h39).symm.trans hk | exact (eb_0 h6 (fun q => h39 q.2)).symm.trans hk | exact (eb_0 h6 (fun q => h28 q.1)).symm.trans hk
        rw [he, hk]
        refine X_aload_n (nx := 88) dX6_endBy_87 rfl rfl rfl ?_
        refine X_iload (nx := 90) dX6_endBy_88 rfl rfl ?_
        refine M_putI (nx := 93) dX6_endBy_90 rfl fl_RX6_133 rfl rfl (by first | assumption | rfl | decide | omega) (by first | assumption | rfl | decide | omega) ?_
        refine X_aload_n (nx := 94) dX6_endBy_93 rfl rfl rfl ?_
        refine X_aload_n (nx := 95) dX6_endBy_94 rfl rfl rfl ?_
        refine M_getP (nx := 98) dX6_endBy_95 rfl fl_RX6_23 rfl (by first | assumption | rfl | decide | omega) (by first | assumption | rfl | decide | omega) (by first | assumption | rfl | decide | omega) ?_
        refine M_getI (nx := 101) dX6_endBy_98 rfl fl_RX6_74 rfl (by first | assumption | rfl | decide | omega) (by first | assumption | rfl | decide | omega) ?_
        refine X_top (((up2_other (by omega)).trans hL.2.1)) ?_
        refine X_iload_n (nx := 102) dX6_endBy_101 rfl rfl rfl ?_
        refine X_isub (nx := 103) dX6_endBy_102 rfl ?_
        refine X_top (sub_nI ha) ?_
        refine M_putI (nx := 106) dX6_endBy_103 rfl fl_RX6_135 rfl rfl (by first | assumption | rfl | decide | omega) (by first | assumption | rfl | decide | omega) ?_
        refine X_iload (nx := 108) dX6_endBy_106 rfl rfl ?_
        exact Y_reti dX6_endBy_108 (Or.inl rfl) rfl rfl
    · skip
      rw [nI_eq (by omega) (by omega)] at h28
      refine X_iload_n (nx := 32) dX6_endBy_31 rfl rfl rfl ?_
      refine X_aload_n (nx := 33) dX6_endBy_32 rfl rfl rfl ?_
      refine M_getP (nx := 36) dX6_endBy_33 rfl fl_RX6_23 rfl (by first | assumption | rfl | decide | omega) (by first | assumption | rfl | decide | omega) (by first | assumption | rfl | decide | omega) ?_
      refine M_getI (nx := 39) dX6_endBy_36 rfl fl_RX6_74 rfl (by first | assumption | rfl | decide | omega) (by first | assumption | rfl | decide | omega) ?_
      refine X_top (hL.2.1) ?_
      refine X_icmp_ne (tgt := 55) (nx := 42) dX6_endBy_39 rfl rfl (fun h39 => ?_) (fun h39 => ?_)
      · skip
        rw [nI_eq (by omega) (by omega)] at h39
        refine X_iload (nx := 57) dX6_endBy_55 rfl rfl ?_
        refine X_top ((by first | exact z_mk | rfl)) ?_
        refine X_aload_n (nx := 58) dX6_endBy_57 rfl rfl rfl ?_
        refine M_getI (nx := 61) dX6_endBy_58 rfl fl_RX6_44 rfl (by first | assumption | rfl | decide | omega) (by first | assumption | rfl | decide | omega) ?_
        refine X_top (hw) ?_
        refine X_iand (nx := 62) dX6_endBy_61 rfl ?_
        refine X_top (nI_and _ _) ?_
        refine X_aload_n (nx := 63) dX6_endBy_62 rfl rfl rfl ?_
        refine M_getP (nx := 66) dX6_endBy_63 rfl fl_RX6_12 rfl (by first | assumption | rfl | decide | omega) (by first | assumption | rfl | decide | omega) (by first | assumption | rfl | decide | omega) ?_
        refine M_getP (nx := 69) dX6_endBy_66 rfl fl_RX6_127 rfl (by first | assumption | rfl | decide | omega) (by first | assumption | rfl | decide | omega) (by first | assumption | rfl | decide | omega) ?_
        refine X_aload_n (nx := 70) dX6_endBy_69 rfl rfl rfl ?_
        refine M_getI (nx := 73) dX6_endBy_70 rfl fl_RX6_40 rfl (by first | assumption | rfl | decide | omega) (by first | assumption | rfl | decide | omega) ?_
        refine Y_Si2 (nx := 76) dX6_endBy_73 rfl ml_RX6_67 kj_X7_numberAt ks_X7_numberAt (sp_X7_numberAt (i := v) (by decide) (by decide) hv0 (by omega)) (by first | decide | omega) (by exact Nat.le_of_ble_eq_true rfl) ?_
        refine X_top (h.2.2.2.1 v hv) ?_
        refine X_iand (nx := 77) dX6_endBy_76 rfl ?_
        refine X_top (nI_and _ _) ?_
        refine Y_Si1 (nx := 80) dX6_endBy_77 rfl ml_RX6_130 kj_X7_leastOf ks_X7_leastOf (sp_X7_leastOf rfl and_lt10) (by first | decide | omega) (by exact Nat.le_of_ble_eq_true rfl) ?_
        refine X_istore (i := 6) (nx := 82) dX6_endBy_80 rfl (by decide) rfl (st_s (st_s (st_s (st_s (st_s (st_s (st_0))))))) ?_
        refine X_iload (nx := 84) dX6_endBy_82 rfl rfl ?_
        refine X_if_lt (tgt := 106) (nx := 87) dX6_endBy_84 rfl rfl (fun h84 => ?_) (fun h84 => ?_)
        · skip
          have hn := opI_lt h84 (fun k hk => by have := (fst_some hk).2.1; omega)
          have he : ebF RS EN SV (ng nl j) w v L s a = none := by first | exact (eb_R h6).symm.trans hn | exact (eb_E h6 h28 h39).symm.trans hn | exact (eb_0 h6 (fun q => h39 q.2)).symm.trans hn | exact (eb_0 h6 (fun q => h28 q.1)).symm.trans hn
          rw [he, hn]
          refine X_iload (nx := 108) dX6_endBy_106 rfl rfl ?_
          exact Y_reti dX6_endBy_108 (Or.inl rfl) rfl rfl
        · skip
          obtain ⟨k, hk⟩ := Option.isSome_iff_exists.mp (opI_ge h84)
          have he : ebF RS EN SV (ng nl j) w v L s a = some k := by first | exact (eb_R h6).symm.trans hk | exact (eb_E h6 h28 h39).symm.trans hk | exact (eb_0 h6 (fun q => h39 q.2)).symm.trans hk | exact (eb_0 h6 (fun q => h28 q.1)).symm.trans hk
          rw [he, hk]
          refine X_aload_n (nx := 88) dX6_endBy_87 rfl rfl rfl ?_
          refine X_iload (nx := 90) dX6_endBy_88 rfl rfl ?_
          refine M_putI (nx := 93) dX6_endBy_90 rfl fl_RX6_133 rfl rfl (by first | assumption | rfl | decide | omega) (by first | assumption | rfl | decide | omega) ?_
          refine X_aload_n (nx := 94) dX6_endBy_93 rfl rfl rfl ?_
          refine X_aload_n (nx := 95) dX6_endBy_94 rfl rfl rfl ?_
          refine M_getP (nx := 98) dX6_endBy_95 rfl fl_RX6_23 rfl (by first | assumption | rfl | decide | omega) (by first | assumption | rfl | decide | omega) (by first | assumption | rfl | decide | omega) ?_
          refine M_getI (nx := 101) dX6_endBy_98 rfl fl_RX6_74 rfl (by first | assumption | rfl | decide | omega) (by first | assumption | rfl | decide | omega) ?_
          refine X_top (((up2_other (by omega)).trans hL.2.1)) ?_
          refine X_iload_n (nx := 102) dX6_endBy_101 rfl rfl rfl ?_
          refine X_isub (nx := 103) dX6_endBy_102 rfl ?_
          refine X_top (sub_nI ha) ?_
          refine M_putI (nx := 106) dX6_endBy_103 rfl fl_RX6_135 rfl rfl (by first | assumption | rfl | decide | omega) (by first | assumption | rfl | decide | omega) ?_
          refine X_iload (nx := 108) dX6_endBy_106 rfl rfl ?_
          exact Y_reti dX6_endBy_108 (Or.inl rfl) rfl rfl
      · skip
        rw [nI_eq (by omega) (by omega)] at h39
        refine X_aload_n (nx := 43) dX6_endBy_42 rfl rfl rfl ?_
        refine M_getP (nx := 46) dX6_endBy_43 rfl fl_RX6_12 rfl (by first | assumption | rfl | decide | omega) (by first | assumption | rfl | decide | omega) (by first | assumption | rfl | decide | omega) ?_
        refine M_getP (nx := 49) dX6_endBy_46 rfl fl_RX6_124 rfl (by first | assumption | rfl | decide | omega) (by first | assumption | rfl | decide | omega) (by first | assumption | rfl | decide | omega) ?_
        refine X_iload_n (nx := 50) dX6_endBy_49 rfl rfl rfl ?_
        refine Y_Si2 (nx := 53) dX6_endBy_50 rfl ml_RX6_67 kj_X7_numberAt ks_X7_numberAt (sp_X7_numberAt (i := j) (by decide) (by decide) rfl (by omega)) (by first | decide | omega) (by exact Nat.le_of_ble_eq_true rfl) ?_
        refine X_top (n3) ?_
        refine X_istore (i := 5) (nx := 55) dX6_endBy_53 rfl (by decide) rfl (st_s (st_s (st_s (st_s (st_s (st_0)))))) ?_
        refine X_iload (nx := 57) dX6_endBy_55 rfl rfl ?_
        refine X_top ((by first | exact z_mk | rfl)) ?_
        refine X_aload_n (nx := 58) dX6_endBy_57 rfl rfl rfl ?_
        refine M_getI (nx := 61) dX6_endBy_58 rfl fl_RX6_44 rfl (by first | assumption | rfl | decide | omega) (by first | assumption | rfl | decide | omega) ?_
        refine X_top (hw) ?_
        refine X_iand (nx := 62) dX6_endBy_61 rfl ?_
        refine X_top (nI_and _ _) ?_
        refine X_aload_n (nx := 63) dX6_endBy_62 rfl rfl rfl ?_
        refine M_getP (nx := 66) dX6_endBy_63 rfl fl_RX6_12 rfl (by first | assumption | rfl | decide | omega) (by first | assumption | rfl | decide | omega) (by first | assumption | rfl | decide | omega) ?_
        refine M_getP (nx := 69) dX6_endBy_66 rfl fl_RX6_127 rfl (by first | assumption | rfl | decide | omega) (by first | assumption | rfl | decide | omega) (by first | assumption | rfl | decide | omega) ?_
        refine X_aload_n (nx := 70) dX6_endBy_69 rfl rfl rfl ?_
        refine M_getI (nx := 73) dX6_endBy_70 rfl fl_RX6_40 rfl (by first | assumption | rfl | decide | omega) (by first | assumption | rfl | decide | omega) ?_
        refine Y_Si2 (nx := 76) dX6_endBy_73 rfl ml_RX6_67 kj_X7_numberAt ks_X7_numberAt (sp_X7_numberAt (i := v) (by decide) (by decide) hv0 (by omega)) (by first | decide | omega) (by exact Nat.le_of_ble_eq_true rfl) ?_
        refine X_top (h.2.2.2.1 v hv) ?_
        refine X_iand (nx := 77) dX6_endBy_76 rfl ?_
        refine X_top (nI_and _ _) ?_
        refine Y_Si1 (nx := 80) dX6_endBy_77 rfl ml_RX6_130 kj_X7_leastOf ks_X7_leastOf (sp_X7_leastOf rfl and_lt10) (by first | decide | omega) (by exact Nat.le_of_ble_eq_true rfl) ?_
        refine X_istore (i := 6) (nx := 82) dX6_endBy_80 rfl (by decide) rfl (st_s (st_s (st_s (st_s (st_s (st_s (st_0))))))) ?_
        refine X_iload (nx := 84) dX6_endBy_82 rfl rfl ?_
        refine X_if_lt (tgt := 106) (nx := 87) dX6_endBy_84 rfl rfl (fun h84 => ?_) (fun h84 => ?_)
        · skip
          have hn := opI_lt h84 (fun k hk => by have := (fst_some hk).2.1; omega)
          have he : ebF RS EN SV (ng nl j) w v L s a = none := by first | exact (eb_R h6).symm.trans hn | exact (eb_E h6 h28 h39).symm.trans hn | exact (eb_0 h6 (fun q => h39 q.2)).symm.trans hn | exact (eb_0 h6 (fun q => h28 q.1)).symm.trans hn
          rw [he, hn]
          refine X_iload (nx := 108) dX6_endBy_106 rfl rfl ?_
          exact Y_reti dX6_endBy_108 (Or.inl rfl) rfl rfl
        · skip
          obtain ⟨k, hk⟩ := Option.isSome_iff_exists.mp (opI_ge h84)
          have he : ebF RS EN SV (ng nl j) w v L s a = some k := by first | exact (eb_R h6).symm.trans hk | exact (eb_E h6 h28 h39).symm.trans hk | exact (eb_0 h6 (fun q => h39 q.2)).symm.trans hk | exact (eb_0 h6 (fun q => h28 q.1)).symm.trans hk
          rw [he, hk]
          refine X_aload_n (nx := 88) dX6_endBy_87 rfl rfl rfl ?_
          refine X_iload (nx := 90) dX6_endBy_88 rfl rfl ?_
          refine M_putI (nx := 93) dX6_endBy_90 rfl fl_RX6_133 rfl rfl (by first | assumption | rfl | decide | omega) (by first | assumption | rfl | decide | omega) ?_
          refine X_aload_n (nx := 94) dX6_endBy_93 rfl rfl rfl ?_
          refine X_aload_n (nx := 95) dX6_endBy_94 rfl rfl rfl ?_
          refine M_getP (nx := 98) dX6_endBy_95 rfl fl_RX6_23 rfl (by first | assumption | rfl | decide | omega) (by first | assumption | rfl | decide | omega) (by first | assumption | rfl | decide | omega) ?_
          refine M_getI (nx := 101) dX6_endBy_98 rfl fl_RX6_74 rfl (by first | assumption | rfl | decide | omega) (by first | assumption | rfl | decide | omega) ?_
          refine X_top (((up2_other (by omega)).trans hL.2.1)) ?_
          refine X_iload_n (nx := 102) dX6_endBy_101 rfl rfl rfl ?_
          refine X_isub (nx := 103) dX6_endBy_102 rfl ?_
          refine X_top (sub_nI ha) ?_
          refine M_putI (nx := 106) dX6_endBy_103 rfl fl_RX6_135 rfl rfl (by first | assumption | rfl | decide | omega) (by first | assumption | rfl | decide | omega) ?_
          refine X_iload (nx := 108) dX6_endBy_106 rfl rfl ?_
          exact Y_reti dX6_endBy_108 (Or.inl rfl) rfl rfl
  · skip
    rw [nI_eq (by omega) (by omega)] at h6
    refine X_aload_n (nx := 10) dX6_endBy_9 rfl rfl rfl ?_
    refine M_getP (nx := 13) dX6_endBy_10 rfl fl_RX6_12 rfl (by first | assumption | rfl | decide | omega) (by first | assumption | rfl | decide | omega) (by first | assumption | rfl | decide | omega) ?_
    refine M_getP (nx := 16) dX6_endBy_13 rfl fl_RX6_121 rfl (by first | assumption | rfl | decide | omega) (by first | assumption | rfl | decide | omega) (by first | assumption | rfl | decide | omega) ?_
    refine X_iload_n (nx := 17) dX6_endBy_16 rfl rfl rfl ?_
    refine Y_Si2 (nx := 20) dX6_endBy_17 rfl ml_RX6_67 kj_X7_numberAt ks_X7_numberAt (sp_X7_numberAt (i := j) (by decide) (by decide) rfl (by omega)) (by first | decide | omega) (by exact Nat.le_of_ble_eq_true rfl) ?_
    refine X_top (n4) ?_
    refine X_istore (i := 5) (nx := 22) dX6_endBy_20 rfl (by decide) rfl (st_s (st_s (st_s (st_s (st_s (st_0)))))) ?_
    refine X_goto (tgt := 55) dX6_endBy_22 rfl ?_
    refine X_iload (nx := 57) dX6_endBy_55 rfl rfl ?_
    refine X_top ((by first | exact z_mk | rfl)) ?_
    refine X_aload_n (nx := 58) dX6_endBy_57 rfl rfl rfl ?_
    refine M_getI (nx := 61) dX6_endBy_58 rfl fl_RX6_44 rfl (by first | assumption | rfl | decide | omega) (by first | assumption | rfl | decide | omega) ?_
    refine X_top (hw) ?_
    refine X_iand (nx := 62) dX6_endBy_61 rfl ?_
    refine X_top (nI_and _ _) ?_
    refine X_aload_n (nx := 63) dX6_endBy_62 rfl rfl rfl ?_
    refine M_getP (nx := 66) dX6_endBy_63 rfl fl_RX6_12 rfl (by first | assumption | rfl | decide | omega) (by first | assumption | rfl | decide | omega) (by first | assumption | rfl | decide | omega) ?_
    refine M_getP (nx := 69) dX6_endBy_66 rfl fl_RX6_127 rfl (by first | assumption | rfl | decide | omega) (by first | assumption | rfl | decide | omega) (by first | assumption | rfl | decide | omega) ?_
    refine X_aload_n (nx := 70) dX6_endBy_69 rfl rfl rfl ?_
    refine M_getI (nx := 73) dX6_endBy_70 rfl fl_RX6_40 rfl (by first | assumption | rfl | decide | omega) (by first | assumption | rfl | decide | omega) ?_
    refine Y_Si2 (nx := 76) dX6_endBy_73 rfl ml_RX6_67 kj_X7_numberAt ks_X7_numberAt (sp_X7_numberAt (i := v) (by decide) (by decide) hv0 (by omega)) (by first | decide | omega) (by exact Nat.le_of_ble_eq_true rfl) ?_
    refine X_top (h.2.2.2.1 v hv) ?_
    refine X_iand (nx := 77) dX6_endBy_76 rfl ?_
    refine X_top (nI_and _ _) ?_
    refine Y_Si1 (nx := 80) dX6_endBy_77 rfl ml_RX6_130 kj_X7_leastOf ks_X7_leastOf (sp_X7_leastOf rfl and_lt10) (by first | decide | omega) (by exact Nat.le_of_ble_eq_true rfl) ?_
    refine X_istore (i := 6) (nx := 82) dX6_endBy_80 rfl (by decide) rfl (st_s (st_s (st_s (st_s (st_s (st_s (st_0))))))) ?_
    refine X_iload (nx := 84) dX6_endBy_82 rfl rfl ?_
    refine X_if_lt (tgt := 106) (nx := 87) dX6_endBy_84 rfl rfl (fun h84 => ?_) (fun h84 => ?_)
    · skip
      have hn := opI_lt h84 (fun k hk => by have := (fst_some hk).2.1; omega)
      have he : ebF RS EN SV (ng nl j) w v L s a = none := by first | exact (eb_R h6).symm.trans hn | exact (eb_E h6 h28 h39).symm.trans hn | exact (eb_0 h6 (fun q => h39 q.2)).symm.trans hn | exact (eb_0 h6 (fun q => h28 q.1)).symm.trans hn
      rw [he, hn]
      refine X_iload (nx := 108) dX6_endBy_106 rfl rfl ?_
      exact Y_reti dX6_endBy_108 (Or.inl rfl) rfl rfl
    · skip
      obtain ⟨k, hk⟩ := Option.isSome_iff_exists.mp (opI_ge h84)
      have he : ebF RS EN SV (ng nl j) w v L s a = some k := by first | exact (eb_R h6).symm.trans hk | exact (eb_E h6 h28 h39).symm.trans hk | exact (eb_0 h6 (fun q => h39 q.2)).symm.trans hk | exact (eb_0 h6 (fun q => h28 q.1)).symm.trans hk
      rw [he, hk]
      refine X_aload_n (nx := 88) dX6_endBy_87 rfl rfl rfl ?_
      refine X_iload (nx := 90) dX6_endBy_88 rfl rfl ?_
      refine M_putI (nx := 93) dX6_endBy_90 rfl fl_RX6_133 rfl rfl (by first | assumption | rfl | decide | omega) (by first | assumption | rfl | decide | omega) ?_
      refine X_aload_n (nx := 94) dX6_endBy_93 rfl rfl rfl ?_
      refine X_aload_n (nx := 95) dX6_endBy_94 rfl rfl rfl ?_
      refine M_getP (nx := 98) dX6_endBy_95 rfl fl_RX6_23 rfl (by first | assumption | rfl | decide | omega) (by first | assumption | rfl | decide | omega) (by first | assumption | rfl | decide | omega) ?_
      refine M_getI (nx := 101) dX6_endBy_98 rfl fl_RX6_74 rfl (by first | assumption | rfl | decide | omega) (by first | assumption | rfl | decide | omega) ?_
      refine X_top (((up2_other (by omega)).trans hL.2.1)) ?_
      refine X_iload_n (nx := 102) dX6_endBy_101 rfl rfl rfl ?_
      refine X_isub (nx := 103) dX6_endBy_102 rfl ?_
      refine X_top (sub_nI ha) ?_
      refine M_putI (nx := 106) dX6_endBy_103 rfl fl_RX6_135 rfl rfl (by first | assumption | rfl | decide | omega) (by first | assumption | rfl | decide | omega) ?_
      refine X_iload (nx := 108) dX6_endBy_106 rfl rfl ?_
      exact Y_reti dX6_endBy_108 (Or.inl rfl) rfl rfl
/-! what a look brings, abstractly: an end with the mounts on the way and what REST took, or nothing; how many nodes were looked at -/
abbrev LR := Option (Nat × List (Nat × Nat) × Nat) × Nat
def addc (c : Nat) (r : LR) : LR := (r.1, c + r.2)
/-- the node behind -/
def nxq (B : Bk) (w : Nat) (L : List Nat) (s a : Nat) (q : Nd) : Option Nd := if L.length ≤ a then none else match edg s (L.getD a 0) with
  | none => none
  | some e => if mkn (PSf B (q.1, q.2 ++ [e])) 10 &&& w = 0 then none else some (q.1, q.2 ++ [e])
def mon (B : Bk) (i : Nat) : Nat := (mo_ B i).toNatClampNeg
def lkM (LK : Nd → Nat → List (Nat × Nat) → LR) (B : Bk) (w : Nat) (q : Nd) (a : Nat) (ms : List (Nat × Nat)) : Nat → Nat → LR
  | _, 0 => (none, 0)
  | i, n + 1 => if (MNf B q i && w.testBit i) = true then
      (if (LK (mon B i, []) a (ms ++ [(i, a)])).1.isSome = true then LK (mon B i, []) a (ms ++ [(i, a)]) else addc (LK (mon B i, []) a (ms ++ [(i, a)])).2 (lkM LK B w q a ms (i + 1) n))
    else lkM LK B w q a ms (i + 1) n
def lkS (LK : Nd → Nat → List (Nat × Nat) → LR) (B : Bk) (w v : Nat) (L : List Nat) (strict : Bool) (q : Nd) (a : Nat) (ms : List (Nat × Nat)) : List Nat → LR
  | [] => (none, 0)
  | s :: r => match nxq B w L s a q with
    | some q' => if (LK q' (a + 1) ms).1.isSome = true then LK q' (a + 1) ms else if strict = true then (none, (LK q' (a + 1) ms).2) else addc (LK q' (a + 1) ms).2 (lkS LK B w v L strict q a ms r)
    | none => if s = 77 then (if (lkM LK B w q a ms 0 10).1.isSome = true then lkM LK B w q a ms 0 10 else addc (lkM LK B w q a ms 0 10).2 (lkS LK B w v L strict q a ms r))
      else match ebF (RSf B) (ENf B) (SVf B) q w v L s a with
        | some e => (some (e, ms, L.length - a), 0)
        | none => lkS LK B w v L strict q a ms r
def lk (B : Bk) (w v : Nat) (L : List Nat) (K F : Nat → Nat) : Nat → Nd → Nat → List (Nat × Nat) → LR
  | 0 => fun _ _ _ => (none, 0)
  | n + 1 => fun q a ms => if K q.1 = 5 ∧ F q.1 < L.length - a then (none, 1) else addc 1 (lkS (lk B w v L K F n) B w v L (decide (K q.1 = 4) || decide (K q.1 = 5)) q a ms (ordS (oi (K q.1))))
/-! what the cells hold -/
def TR (D : Mem) (ml : List (Nat × Nat)) : Prop := ∀ i, i < ml.length → D 94 i = nI (ml.getD i (0, 0)).1 ∧ D 95 (i + 1) = nI (ml.getD i (0, 0)).2
def inW (b : Nat) : Prop := b = 79 ∨ b = 94 ∨ b = 95
def WR (D D' : Mem) (ms : List (Nat × Nat)) (v : Int32) (r : LR) : Prop :=
  v = opI (r.1.map (fun z => z.1)) ∧ D' 79 6 = D 79 6 + nI r.2 ∧ (∀ e ml t, r.1 = some (e, ml, t) → D' 79 7 = nI ml.length ∧ D' 79 8 = nI t ∧ TR D' ml ∧ ml.length ≤ 2 ∧ e < 10) ∧ TR D' ms ∧ D' 95 0 = D 95 0 ∧ (∀ x, x ≠ 6 → x ≠ 7 → x ≠ 8 → D' 79 x = D 79 x) ∧ Fr inW D D'
theorem add32 (x : Int32) (a b : Nat) : x + nI a + nI b = x + nI (a + b) := by rw [Int32.add_assoc, nI_add]
theorem WR.then {D D1 D2 : Mem} {ms : List (Nat × Nat)} {u v : Int32} {r r2 : LR} (h : WR D D1 ms u r) (h2 : WR D1 D2 ms v r2) : WR D D2 ms v (addc r.2 r2) := by
  obtain ⟨a1, a2, a3, a4, a5, a6, a7⟩ := h
  obtain ⟨b1, b2, b3, b4, b5, b6, b7⟩ := h2
  exact ⟨b1, by rw [b2, a2, add32]; rfl, b3, b4, b5.trans a5, fun x h1 h2 h3 => (b6 x h1 h2 h3).trans (a6 x h1 h2 h3), a7.tr b7⟩
theorem WR.miss {D D1 : Mem} {ms : List (Nat × Nat)} {u : Int32} {r : LR} (h : WR D D1 ms u r) : WR D D1 ms (-9) (none, r.2) := by
  obtain ⟨a1, a2, a3, a4, a5, a6, a7⟩ := h
  exact ⟨rfl, a2, fun _ _ _ q => (by cases q), a4, a5, a6, a7⟩
theorem WR.self {D : Mem} {ms : List (Nat × Nat)} (h : TR D ms) : WR D D ms (-9) (none, 0) :=
  ⟨rfl, by rw [show nI 0 = 0 from rfl, Int32.add_zero], fun _ _ _ q => (by cases q), h, rfl, fun _ _ _ _ => rfl, Fr.rf⟩
/-- the trie, kinds and figures as they stand, the path, the verb, who is there -/
def WK_ (D : Mem) (B : Bk) (K F : Nat → Nat) (L : List Nat) (w v : Nat) : Prop :=
  TE D B (nlG B 10) (PSf B) (ENf B) (RSf B) (MNf B) (SVf B) (fun r => thN B r && mtB B r) ∧ (∀ i, i < 3 → D 89 i = nI (K i) ∧ D 90 i = nI (F i) ∧ K i ≤ 5 ∧ F i ≤ 9) ∧ LET D 92 L ∧ D 79 5 = nI w ∧ w < 1024 ∧ D 79 4 = nI v ∧ v < 4
theorem WK_.kept {D D' : Mem} {B : Bk} {K F : Nat → Nat} {L : List Nat} {w v : Nat} (h : WK_ D B K F L w v) (h6 : ∀ x, x ≠ 6 → x ≠ 7 → x ≠ 8 → D' 79 x = D 79 x) (hf : Fr inW D D') : WK_ D' B K F L w v := by
  obtain ⟨h1, h2, h3, h4, h5, h7, h8⟩ := h
  have hb : ∀ b, 80 ≤ b → b ≤ 93 → D' b = D b := fun b g1 g2 => hf b (by unfold inW; omega)
  exact ⟨h1.fr (fun b g1 g2 => hb b (by omega) (by omega)) (by rw [hb 80 (by omega) (by omega)]), fun i hi => ⟨by rw [hb 89 (by omega) (by omega)]; exact (h2 i hi).1, by rw [hb 90 (by omega) (by omega)]; exact (h2 i hi).2.1, (h2 i hi).2.2⟩, h3.fr (hb 92 (by omega) (by omega)) (hb 93 (by omega) (by omega)), (h6 5 (by omega) (by omega) (by omega)).trans h4, h5, (h6 4 (by omega) (by omega) (by omega)).trans h7, h8⟩
theorem WR.wk {D D1 : Mem} {ms : List (Nat × Nat)} {u : Int32} {r : LR} {B : Bk} {K F : Nat → Nat} {L : List Nat} {w v : Nat} (h : WR D D1 ms u r) (hk : WK_ D B K F L w v) : WK_ D1 B K F L w v := hk.kept h.2.2.2.2.2.1 h.2.2.2.2.2.2
theorem nbh_n {nl : List Nd} {PS : Nd → Nat → Bool} {q : Nd} {e w : Nat} (h : nix nl (q.1, q.2 ++ [e]) = none) : nbh nl PS q e w = none := by unfold nbh; rw [h]
theorem nbh_s {nl : List Nd} {PS : Nd → Nat → Bool} {q : Nd} {e w k : Nat} (h : nix nl (q.1, q.2 ++ [e]) = some k) : nbh nl PS q e w = if mkn (PS (q.1, q.2 ++ [e])) 10 &&& w = 0 then none else some k := by unfold nbh; rw [h]
/-- the next node, by its number -/
theorem nxI_q {D : Mem} {B : Bk} {nl : List Nd} {EN RS MN : Nd → Nat → Bool} {SV : Nat → Nat → Bool} {MO : Nat → Bool} (h : TE D B nl (PSf B) EN RS MN SV MO) {q : Nd} {w s a : Nat} {L : List Nat} : (∀ k, nxI nl (PSf B) q w L s a = some k → k < nl.length ∧ nxq B w L s a q = some (ng nl k) ∧ (ng nl k).1 = q.1 ∧ a < L.length) ∧ (nxI nl (PSf B) q w L s a = none → nxq B w L s a q = none) := by
  unfold nxI nxq
  by_cases ha : L.length ≤ a
  · rw [if_pos ha, if_pos ha]
    exact ⟨fun k hk => (by cases hk), fun _ => rfl⟩
  · rw [if_neg ha, if_neg ha]
    cases he : edg s (L.getD a 0) with
    | none => exact ⟨fun k hk => (by cases hk), fun _ => rfl⟩
    | some e =>
      dsimp only
      cases hn : nix nl (q.1, q.2 ++ [e]) with
      | none =>
        rw [nbh_n hn]
        refine ⟨fun k hk => (by cases hk), fun _ => ?_⟩
        have hz : mkn (PSf B (q.1, q.2 ++ [e])) 10 = 0 := mkn_0.mpr fun r hr => (h.2.2.2.2.2 (q.1, q.2 ++ [e]) (fun k hk => nix_none hn hk) r hr).1
        rw [hz, Nat.zero_and, if_pos rfl]
      | some k =>
        obtain ⟨k1, k2⟩ := nix_some hn
        rw [nbh_s hn]
        by_cases hm : mkn (PSf B (q.1, q.2 ++ [e])) 10 &&& w = 0
        · rw [if_pos hm, if_pos hm]
          exact ⟨fun k hk => (by cases hk), fun _ => rfl⟩
        · rw [if_neg hm, if_neg hm]
          exact ⟨fun k' hk => by cases hk; exact ⟨k1, by rw [k2], by rw [k2], by omega⟩, fun q => by cases q⟩
