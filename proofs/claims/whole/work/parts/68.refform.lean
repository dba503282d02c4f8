/-! THE REFERENCE: the form of tables -/
/-- the tape, and where is read -/
def TPE (D : Mem) (t : List Nat) (i : Nat) : Prop := D 104 33 = nI t.length ∧ (∀ k, k < t.length → D 125 k = nI (t.getD k 0)) ∧ D 104 34 = nI i ∧ i ≤ t.length ∧ t.length ≤ 96 ∧ ∀ x ∈ t, x < 256
def sgI (t : List Nat) (i : Nat) : Int32 := if i < t.length then nI (t.getD i 0) else -1
theorem sgI_y {t : List Nat} {i : Nat} (h : i < t.length) : sgI t i = nI (t.getD i 0) := if_pos h
theorem sgI_n {t : List Nat} {i : Nat} (h : ¬ i < t.length) : sgI t i = -1 := if_neg h
/-- all alive so far -/
def ALV (t : List Nat) (i : Nat) : Prop := ∀ k, k ≤ i → qs t k ≠ 10
theorem ALV.s {t : List Nat} {i q r : Nat} (h : ALV t i) (hq : qs t i = q) (hr : dl q (t.getD i 0) = r) (h10 : r ≠ 10) : ALV t (i + 1) ∧ qs t (i + 1) = r := by
  have e : qs t (i + 1) = r := by show dl (qs t i) (t.getD i 0) = r; rw [hq]; exact hr
  refine ⟨fun k hk => ?_, e⟩
  by_cases hk2 : k ≤ i
  · exact h k hk2
  · obtain rfl : k = i + 1 := by omega
    rw [e]; exact h10
theorem ALV.fail {t : List Nat} {i q : Nat} (h : ALV t i) (hi : i ≤ t.length) (hq : qs t i = q) (hd : (i < t.length ∧ dl q (t.getD i 0) = 10) ∨ (i = t.length ∧ (q ≠ 0 ∨ t.length = 0))) : ffp t = some i := by
  rcases hd with ⟨h1, h2⟩ | ⟨h1, h2⟩
  · exact ffp_hit h1 h (by show dl (qs t i) (t.getD i 0) = 10; rw [hq]; exact h2)
  · subst h1
    rw [ffp_end h, if_neg (fun w => h2.elim (fun a => a (hq.symm.trans w.1)) (fun a => by omega))]
theorem TPE.fq {D D' : Mem} {t : List Nat} {i j : Nat} (h : TPE D t i) (h1 : D' 104 33 = D 104 33) (h2 : D' 125 = D 125) (h3 : D' 104 34 = nI j) (hj : j ≤ t.length) : TPE D' t j := ⟨h1.trans h.1, by rw [h2]; exact h.2.1, h3, hj, h.2.2.2.2⟩
theorem TPE.c {D : Mem} {t : List Nat} {i : Nat} (h : TPE D t i) (hi : i < t.length) : t.getD i 0 < 256 := getD_lt h.2.2.2.2.2 hi
theorem dX8_sign_0 : decode cX8_sign 0 = .ok (.aload_n 0, 1) := by decide +kernel
theorem dX8_sign_1 : decode cX8_sign 1 = .ok (.getfield 214, 3) := by decide +kernel
theorem dX8_sign_4 : decode cX8_sign 4 = .ok (.aload_n 0, 1) := by decide +kernel
theorem dX8_sign_5 : decode cX8_sign 5 = .ok (.getfield 208, 3) := by decide +kernel
theorem dX8_sign_8 : decode cX8_sign 8 = .ok (.if_icmp .ge 15, 3) := by decide +kernel
theorem dX8_sign_11 : decode cX8_sign 11 = .ok (.aload_n 0, 1) := by decide +kernel
theorem dX8_sign_12 : decode cX8_sign 12 = .ok (.getfield 70, 3) := by decide +kernel
theorem dX8_sign_15 : decode cX8_sign 15 = .ok (.aload_n 0, 1) := by decide +kernel
theorem dX8_sign_16 : decode cX8_sign 16 = .ok (.getfield 214, 3) := by decide +kernel
theorem dX8_sign_19 : decode cX8_sign 19 = .ok (.iaload, 1) := by decide +kernel
theorem dX8_sign_20 : decode cX8_sign 20 = .ok (.goto 4, 3) := by decide +kernel
theorem dX8_sign_23 : decode cX8_sign 23 = .ok (.iconst (-1), 1) := by decide +kernel
theorem dX8_sign_24 : decode cX8_sign 24 = .ok (.ireturn, 1) := by decide +kernel
theorem sp_X8_sign {t : List Nat} {i : Nat} {D : Mem} (h : TPE D t i) : Ei 1 j_X8_sign [.ref 104] D (sgI t i) (D) := by
  refine E.start 0 (ls := [some (.ref 104)]) (by decide +kernel) (Nat.le_of_ble_eq_true rfl) rfl (Nat.le_refl _) (Nat.le_refl _) ?_
  have h96 := h.2.2.2.2.1
  have hil := h.2.2.2.1
  refine X_aload_n (nx := 1) dX8_sign_0 rfl rfl rfl ?_
  refine M_getI (nx := 4) dX8_sign_1 rfl fl_RX8_214 rfl (by first | assumption | rfl | decide | omega) (by first | assumption | rfl | decide | omega) ?_
  refine X_top (h.2.2.1) ?_
  refine X_aload_n (nx := 5) dX8_sign_4 rfl rfl rfl ?_
  refine M_getI (nx := 8) dX8_sign_5 rfl fl_RX8_208 rfl (by first | assumption | rfl | decide | omega) (by first | assumption | rfl | decide | omega) ?_
  refine X_top (h.1) ?_
  refine X_icmp_ge (tgt := 23) (nx := 11) dX8_sign_8 rfl rfl (fun h8 => ?_) (fun h8 => ?_)
  · skip
    rw [nI_leI (by omega) (by omega)] at h8
    refine X_iconst (v := -1) (nx := 24) dX8_sign_23 rfl rfl ?_
    exact Y_reti dX8_sign_24 (Or.inl rfl) (by first | rw [sgI_n (by omega)] | rw [sgI_y (by omega)]) rfl
  · skip
    rw [nI_leI (by omega) (by omega)] at h8
    refine X_aload_n (nx := 12) dX8_sign_11 rfl rfl rfl ?_
    refine M_getP (nx := 15) dX8_sign_12 rfl fl_RX8_70 rfl (by first | assumption | rfl | decide | omega) (by first | assumption | rfl | decide | omega) (by first | assumption | rfl | decide | omega) ?_
    refine X_aload_n (nx := 16) dX8_sign_15 rfl rfl rfl ?_
    refine M_getI (nx := 19) dX8_sign_16 rfl fl_RX8_214 rfl (by first | assumption | rfl | decide | omega) (by first | assumption | rfl | decide | omega) ?_
    refine X_top (h.2.2.1) ?_
    refine M_ld (a := 125) (L := 96) (nx := 20) dX8_sign_19 rfl (by decide) (by decide) rfl (by decide) (by omega) (h.2.1 i (by omega)) ?_
    refine X_goto (tgt := 24) dX8_sign_20 rfl ?_
    exact Y_reti dX8_sign_24 (Or.inl rfl) (by first | rw [sgI_n (by omega)] | rw [sgI_y (by omega)]) rfl
def isd (t : List Nat) (i : Nat) : Bool := decide (i < t.length) && dig (t.getD i 0)
theorem sg_dig {D : Mem} {t : List Nat} {i : Nat} (h : TPE D t i) : decide ((48 : Int32) ≤ sgI t i ∧ sgI t i ≤ 57) = isd t i := by
  unfold isd
  by_cases hi : i < t.length
  · have hc := h.c hi
    rw [sgI_y hi, decide_eq_true hi, Bool.true_and]
    unfold dig
    exact decide_eq_decide.mpr ⟨fun q => ⟨(nI_leI (a := 48) (by omega) (by omega)).mp q.1, (nI_leI (b := 57) (by omega) (by omega)).mp q.2⟩, fun q => ⟨(nI_leI (a := 48) (by omega) (by omega)).mpr q.1, (nI_leI (b := 57) (by omega) (by omega)).mpr q.2⟩⟩
  · rw [sgI_n hi, decide_eq_false hi]; rfl
theorem isd_t {t : List Nat} {i : Nat} (h : isd t i = true) : i < t.length ∧ dig (t.getD i 0) = true := by unfold isd at h; simp only [Bool.and_eq_true, decide_eq_true_eq] at h; exact h
/-- a digit read -/
def rdD (D : Mem) (tg i c : Nat) : Mem := up2 (up2 (up2 D 128 tg (nI (c - 48))) 104 36 (nI (tg + 1))) 104 34 (nI (i + 1))
def RDG (t : List Nat) (i tg : Nat) (D : Mem) (u : Int32) (D' : Mem) : Prop := (isd t i = true ∧ u = 1 ∧ D' = rdD D tg i (t.getD i 0)) ∨ (isd t i = false ∧ u = 0 ∧ D' = D)
theorem RDG.y {t : List Nat} {i tg : Nat} {D D' : Mem} {u : Int32} (h : RDG t i tg D u D') (hu : ¬ u = 0) : isd t i = true ∧ D' = rdD D tg i (t.getD i 0) := h.elim (fun q => ⟨q.1, q.2.2⟩) (fun q => absurd q.2.1 hu)
theorem RDG.n {t : List Nat} {i tg : Nat} {D D' : Mem} {u : Int32} (h : RDG t i tg D u D') (hu : u = 0) : isd t i = false ∧ D' = D := h.elim (fun q => absurd (q.2.1.symm.trans hu) (by decide)) (fun q => ⟨q.1, q.2.2⟩)
theorem rdD_fq {D : Mem} {tg i c : Nat} : Fq (fun b j => (b = 128 ∧ j = tg) ∨ (b = 104 ∧ (j = 34 ∨ j = 36))) D (rdD D tg i c) := by
  unfold rdD
  refine Fq.up' (Fq.up' (Fq.up' Fq.rf ?_) ?_) ?_ <;> omega
theorem rdD_at {D : Mem} {tg i c : Nat} : rdD D tg i c 128 tg = nI (c - 48) ∧ rdD D tg i c 104 36 = nI (tg + 1) ∧ rdD D tg i c 104 34 = nI (i + 1) := by
  unfold rdD
  exact ⟨by rw [up2_ne (by omega), up2_ne (by omega), up2_same], by rw [up2_other (by omega), up2_same], up2_same⟩
theorem rdD_tpe {D : Mem} {t : List Nat} {tg i c : Nat} (h : TPE D t i) (hi : i < t.length) : TPE (rdD D tg i c) t (i + 1) := h.fq (rdD_fq 104 33 (by omega)) (rdD_fq.row (fun j => by omega)) rdD_at.2.2 hi
theorem dX8_readsDigit_0 : decode cX8_readsDigit 0 = .ok (.aload_n 0, 1) := by decide +kernel
theorem dX8_readsDigit_1 : decode cX8_readsDigit 1 = .ok (.invokevirtual 217, 3) := by decide +kernel
theorem dX8_readsDigit_4 : decode cX8_readsDigit 4 = .ok (.bipush 48, 2) := by decide +kernel
theorem dX8_readsDigit_6 : decode cX8_readsDigit 6 = .ok (.bipush 57, 2) := by decide +kernel
theorem dX8_readsDigit_8 : decode cX8_readsDigit 8 = .ok (.invokestatic 115, 3) := by decide +kernel
theorem dX8_readsDigit_11 : decode cX8_readsDigit 11 = .ok (.ifCond .ne 5, 3) := by decide +kernel
theorem dX8_readsDigit_14 : decode cX8_readsDigit 14 = .ok (.iconst 0, 1) := by decide +kernel
theorem dX8_readsDigit_15 : decode cX8_readsDigit 15 = .ok (.ireturn, 1) := by decide +kernel
theorem dX8_readsDigit_16 : decode cX8_readsDigit 16 = .ok (.aload_n 0, 1) := by decide +kernel
theorem dX8_readsDigit_17 : decode cX8_readsDigit 17 = .ok (.getfield 79, 3) := by decide +kernel
theorem dX8_readsDigit_20 : decode cX8_readsDigit 20 = .ok (.aload_n 0, 1) := by decide +kernel
theorem dX8_readsDigit_21 : decode cX8_readsDigit 21 = .ok (.getfield 221, 3) := by decide +kernel
theorem dX8_readsDigit_24 : decode cX8_readsDigit 24 = .ok (.aload_n 0, 1) := by decide +kernel
theorem dX8_readsDigit_25 : decode cX8_readsDigit 25 = .ok (.invokevirtual 217, 3) := by decide +kernel
theorem dX8_readsDigit_28 : decode cX8_readsDigit 28 = .ok (.bipush 48, 2) := by decide +kernel
theorem dX8_readsDigit_30 : decode cX8_readsDigit 30 = .ok (.isub, 1) := by decide +kernel
theorem dX8_readsDigit_31 : decode cX8_readsDigit 31 = .ok (.iastore, 1) := by decide +kernel
theorem dX8_readsDigit_32 : decode cX8_readsDigit 32 = .ok (.aload_n 0, 1) := by decide +kernel
theorem dX8_readsDigit_33 : decode cX8_readsDigit 33 = .ok (.dup, 1) := by decide +kernel
theorem dX8_readsDigit_34 : decode cX8_readsDigit 34 = .ok (.getfield 221, 3) := by decide +kernel
theorem dX8_readsDigit_37 : decode cX8_readsDigit 37 = .ok (.iconst 1, 1) := by decide +kernel
theorem dX8_readsDigit_38 : decode cX8_readsDigit 38 = .ok (.iadd, 1) := by decide +kernel
theorem dX8_readsDigit_39 : decode cX8_readsDigit 39 = .ok (.putfield 221, 3) := by decide +kernel
theorem dX8_readsDigit_42 : decode cX8_readsDigit 42 = .ok (.aload_n 0, 1) := by decide +kernel
theorem dX8_readsDigit_43 : decode cX8_readsDigit 43 = .ok (.dup, 1) := by decide +kernel
theorem dX8_readsDigit_44 : decode cX8_readsDigit 44 = .ok (.getfield 214, 3) := by decide +kernel
theorem dX8_readsDigit_47 : decode cX8_readsDigit 47 = .ok (.iconst 1, 1) := by decide +kernel
theorem dX8_readsDigit_48 : decode cX8_readsDigit 48 = .ok (.iadd, 1) := by decide +kernel
theorem dX8_readsDigit_49 : decode cX8_readsDigit 49 = .ok (.putfield 214, 3) := by decide +kernel
theorem dX8_readsDigit_52 : decode cX8_readsDigit 52 = .ok (.iconst 1, 1) := by decide +kernel
theorem dX8_readsDigit_53 : decode cX8_readsDigit 53 = .ok (.ireturn, 1) := by decide +kernel
theorem sp_X8_readsDigit {t : List Nat} {i tg : Nat} {D : Mem} (h : TPE D t i) (htg : D 104 36 = nI tg) (htl : tg < 99) : Rix 2 j_X8_readsDigit [.ref 104] D (fun u D' => RDG t i tg D u D') := by
  refine E.start 0 (ls := [some (.ref 104)]) (by decide +kernel) (Nat.le_of_ble_eq_true rfl) rfl (Nat.le_refl _) (Nat.le_refl _) ?_
  refine X_aload_n (nx := 1) dX8_readsDigit_0 rfl rfl rfl ?_
  refine Y_Vi0 (nx := 4) dX8_readsDigit_1 rfl ml_RX8_217 kj_X8_sign kv_X8_sign (sp_X8_sign h) (by first | assumption | rfl | decide | omega) (by first | assumption | rfl | decide | omega) (by decide) rfl (by first | decide | omega) (by exact Nat.le_of_ble_eq_true rfl) ?_
  refine X_bipush (v := 48) (nx := 6) dX8_readsDigit_4 rfl rfl ?_
  refine X_bipush (v := 57) (nx := 8) dX8_readsDigit_6 rfl rfl ?_
  refine Y_Si3 (nx := 11) dX8_readsDigit_8 rfl ml_RX8_115 kj_X8_isIn ks_X8_isIn (sp_X8_isIn) (by first | decide | omega) (by exact Nat.le_of_ble_eq_true rfl) ?_
  refine X_top (congrArg b2i (sg_dig h)) ?_
  refine X_if_ne (tgt := 16) (nx := 14) dX8_readsDigit_11 rfl rfl (fun h11 => ?_) (fun h11 => ?_)
  · skip
    have c11 := b2i_t.mp h11
    refine X_aload_n (nx := 17) dX8_readsDigit_16 rfl rfl rfl ?_
    refine M_getP (nx := 20) dX8_readsDigit_17 rfl fl_RX8_79 rfl (by first | assumption | rfl | decide | omega) (by first | assumption | rfl | decide | omega) (by first | assumption | rfl | decide | omega) ?_
    refine X_aload_n (nx := 21) dX8_readsDigit_20 rfl rfl rfl ?_
    refine M_getI (nx := 24) dX8_readsDigit_21 rfl fl_RX8_221 rfl (by first | assumption | rfl | decide | omega) (by first | assumption | rfl | decide | omega) ?_
    refine X_top (htg) ?_
    refine X_aload_n (nx := 25) dX8_readsDigit_24 rfl rfl rfl ?_
    refine Y_Vi0 (nx := 28) dX8_readsDigit_25 rfl ml_RX8_217 kj_X8_sign kv_X8_sign (sp_X8_sign h) (by first | assumption | rfl | decide | omega) (by first | assumption | rfl | decide | omega) (by decide) rfl (by first | decide | omega) (by exact Nat.le_of_ble_eq_true rfl) ?_
    refine X_top (sgI_y (isd_t c11).1) ?_
    refine X_bipush (v := nI 48) (nx := 30) dX8_readsDigit_28 rfl rfl ?_
    refine X_isub (nx := 31) dX8_readsDigit_30 rfl ?_
    refine X_top (sub_nI (by have := dig_b (isd_t c11).2; omega)) ?_
    refine M_st (a := 128) (L := 99) (nx := 32) dX8_readsDigit_31 rfl (by decide) (by decide) rfl (by decide) (by omega) ?_
    refine X_aload_n (nx := 33) dX8_readsDigit_32 rfl rfl rfl ?_
    refine X_dup (nx := 34) dX8_readsDigit_33 rfl rfl ?_
    refine M_getI (nx := 37) dX8_readsDigit_34 rfl fl_RX8_221 rfl (by first | assumption | rfl | decide | omega) (by first | assumption | rfl | decide | omega) ?_
    refine X_top ((up2_other (by omega)).trans htg) ?_
    refine X_iconst (v := 1) (nx := 38) dX8_readsDigit_37 rfl rfl ?_
    refine X_iadd (nx := 39) dX8_readsDigit_38 rfl ?_
    refine X_top (nI_1 _) ?_
    refine M_putI (nx := 42) dX8_readsDigit_39 rfl fl_RX8_221 rfl rfl (by first | assumption | rfl | decide | omega) (by first | assumption | rfl | decide | omega) ?_
    refine X_aload_n (nx := 43) dX8_readsDigit_42 rfl rfl rfl ?_
    refine X_dup (nx := 44) dX8_readsDigit_43 rfl rfl ?_
    refine M_getI (nx := 47) dX8_readsDigit_44 rfl fl_RX8_214 rfl (by first | assumption | rfl | decide | omega) (by first | assumption | rfl | decide | omega) ?_
    refine X_top ((up2_other (by omega)).trans ((up2_other (by omega)).trans h.2.2.1)) ?_
    refine X_iconst (v := 1) (nx := 48) dX8_readsDigit_47 rfl rfl ?_
    refine X_iadd (nx := 49) dX8_readsDigit_48 rfl ?_
    refine X_top (nI_1 _) ?_
    refine M_putI (nx := 52) dX8_readsDigit_49 rfl fl_RX8_214 rfl rfl (by first | assumption | rfl | decide | omega) (by first | assumption | rfl | decide | omega) ?_
    refine X_iconst (v := 1) (nx := 53) dX8_readsDigit_52 rfl rfl ?_
    exact Z_reti dX8_readsDigit_53 (Or.inr ⟨rfl, by first | exact Or.inl rfl | exact Or.inr rfl | exact b2i_01 _ | assumption⟩) (Or.inl ⟨c11, rfl, rfl⟩)
  · skip
    have n11 := b2i_f.mp h11
    refine X_iconst (v := 0) (nx := 15) dX8_readsDigit_14 rfl rfl ?_
    exact Z_reti dX8_readsDigit_15 (Or.inr ⟨rfl, by first | exact Or.inl rfl | exact Or.inr rfl | exact b2i_01 _ | assumption⟩) (Or.inr ⟨n11, rfl, rfl⟩)
/-- what readsSegment may change -/
def RSQ (n b i : Nat) : Prop := (b = 104 ∧ (i = 34 ∨ i = 37)) ∨ (b = 131 ∧ n ≤ i)
/-- a segment read behind its slash -/
def RSM (t : List Nat) (i n : Nat) (D : Mem) (u : Int32) (D' : Mem) : Prop := Fq (RSQ n) D D' ∧
  ((u = 1 ∧ ∃ j, TPE D' t j ∧ ALV t j ∧ qs t j = 3 ∧ i < j ∧ (∀ k, i ≤ k → k < j → t.getD k 0 ≠ 47 ∧ t.getD k 0 ≠ 59) ∧ D' 131 n = nI (sgo (t.getD i 0) (t.getD (i + 1) 0 - 48)) ∧ D' 104 37 = nI (n + 1)) ∨
   (u = 0 ∧ ∃ j, D' 104 34 = nI j ∧ ffp t = some j))
theorem nam_c {c : Nat} : nam c = true ↔ c = 60 ∨ c = 62 ∨ c = 58 := by unfold nam; exact decide_eq_true_iff
theorem dl4_n {c : Nat} (h : nam c = true) : dl 4 c = 5 := by simp [dl, h]
theorem dl4_l {c : Nat} (h : ¬ (c = 60 ∨ c = 62 ∨ c = 58)) (h2 : c = 42 ∨ (97 ≤ c ∧ c ≤ 100)) : dl 4 c = 3 := by
  have : nam c = false := Bool.eq_false_iff.mpr (fun q => h (nam_c.mp q))
  simp only [dl, this]; simp; omega
theorem dl4_d {c : Nat} (h : ¬ (c = 60 ∨ c = 62 ∨ c = 58)) (h2 : ¬ (c = 42 ∨ (97 ≤ c ∧ c ≤ 100))) : dl 4 c = 10 := by
  have : nam c = false := Bool.eq_false_iff.mpr (fun q => h (nam_c.mp q))
  simp only [dl, this]; simp; omega
theorem dl5_y {c : Nat} (h : dig c = true) : dl 5 c = 3 := by simp [dl, h]
theorem dl5_n {c : Nat} (h : dig c = false) : dl 5 c = 10 := by simp [dl, h]
theorem sgo_n {c d b : Nat} (h : (c = 60 ∧ b = 10) ∨ (c = 62 ∧ b = 20) ∨ (c = 58 ∧ b = 30)) : sgo c d = b + d := by
  rcases h with ⟨rfl, rfl⟩ | ⟨rfl, rfl⟩ | ⟨rfl, rfl⟩ <;> rfl
theorem sgo_s {d : Nat} : sgo 42 d = 40 := rfl
theorem sgo_l {c d : Nat} (h : 97 ≤ c) : sgo c d = c - 97 := by unfold sgo; rw [if_neg (by omega), if_neg (by omega), if_neg (by omega), if_neg (by omega)]
theorem isd_f {t : List Nat} {i : Nat} (h : isd t i = false) (hi : i < t.length) : dig (t.getD i 0) = false := by unfold isd at h; rw [decide_eq_true hi, Bool.true_and] at h; exact h
def rsD (D : Mem) (i : Nat) : Mem := up2 D 104 34 (nI i)
theorem in_let {n : Nat} (h : n < 1000) : decide ((97 : Int32) ≤ nI n ∧ nI n ≤ 100) = decide (97 ≤ n ∧ n ≤ 100) :=
  decide_eq_decide.mpr ⟨fun q => ⟨(nI_leI (a := 97) (by omega) (by omega)).mp q.1, (nI_leI (b := 100) (by omega) (by omega)).mp q.2⟩, fun q => ⟨(nI_leI (a := 97) (by omega) (by omega)).mpr q.1, (nI_leI (b := 100) (by omega) (by omega)).mpr q.2⟩⟩
theorem dX8_readsSegment_0 : decode cX8_readsSegment 0 = .ok (.aload_n 0, 1) := by decide +kernel
theorem dX8_readsSegment_1 : decode cX8_readsSegment 1 = .ok (.invokevirtual 217, 3) := by decide +kernel
theorem dX8_readsSegment_4 : decode cX8_readsSegment 4 = .ok (.istore_n 1, 1) := by decide +kernel
theorem dX8_readsSegment_5 : decode cX8_readsSegment 5 = .ok (.aload_n 0, 1) := by decide +kernel
theorem dX8_readsSegment_6 : decode cX8_readsSegment 6 = .ok (.dup, 1) := by decide +kernel
theorem dX8_readsSegment_7 : decode cX8_readsSegment 7 = .ok (.getfield 214, 3) := by decide +kernel
theorem dX8_readsSegment_10 : decode cX8_readsSegment 10 = .ok (.iconst 1, 1) := by decide +kernel
theorem dX8_readsSegment_11 : decode cX8_readsSegment 11 = .ok (.iadd, 1) := by decide +kernel
theorem dX8_readsSegment_12 : decode cX8_readsSegment 12 = .ok (.putfield 214, 3) := by decide +kernel
theorem dX8_readsSegment_15 : decode cX8_readsSegment 15 = .ok (.iload_n 1, 1) := by decide +kernel
theorem dX8_readsSegment_16 : decode cX8_readsSegment 16 = .ok (.bipush 60, 2) := by decide +kernel
theorem dX8_readsSegment_18 : decode cX8_readsSegment 18 = .ok (.if_icmp .ne 8, 3) := by decide +kernel
theorem dX8_readsSegment_21 : decode cX8_readsSegment 21 = .ok (.bipush 10, 2) := by decide +kernel
theorem dX8_readsSegment_23 : decode cX8_readsSegment 23 = .ok (.goto 26, 3) := by decide +kernel
theorem dX8_readsSegment_26 : decode cX8_readsSegment 26 = .ok (.iload_n 1, 1) := by decide +kernel
theorem dX8_readsSegment_27 : decode cX8_readsSegment 27 = .ok (.bipush 62, 2) := by decide +kernel
theorem dX8_readsSegment_29 : decode cX8_readsSegment 29 = .ok (.if_icmp .ne 8, 3) := by decide +kernel
theorem dX8_readsSegment_32 : decode cX8_readsSegment 32 = .ok (.bipush 20, 2) := by decide +kernel
theorem dX8_readsSegment_34 : decode cX8_readsSegment 34 = .ok (.goto 15, 3) := by decide +kernel
theorem dX8_readsSegment_37 : decode cX8_readsSegment 37 = .ok (.iload_n 1, 1) := by decide +kernel
theorem dX8_readsSegment_38 : decode cX8_readsSegment 38 = .ok (.bipush 58, 2) := by decide +kernel
theorem dX8_readsSegment_40 : decode cX8_readsSegment 40 = .ok (.if_icmp .ne 8, 3) := by decide +kernel
theorem dX8_readsSegment_43 : decode cX8_readsSegment 43 = .ok (.bipush 30, 2) := by decide +kernel
theorem dX8_readsSegment_45 : decode cX8_readsSegment 45 = .ok (.goto 4, 3) := by decide +kernel
theorem dX8_readsSegment_48 : decode cX8_readsSegment 48 = .ok (.iconst 0, 1) := by decide +kernel
theorem dX8_readsSegment_49 : decode cX8_readsSegment 49 = .ok (.istore_n 2, 1) := by decide +kernel
theorem dX8_readsSegment_50 : decode cX8_readsSegment 50 = .ok (.iload_n 2, 1) := by decide +kernel
theorem dX8_readsSegment_51 : decode cX8_readsSegment 51 = .ok (.ifCond .le 50, 3) := by decide +kernel
theorem dX8_readsSegment_54 : decode cX8_readsSegment 54 = .ok (.aload_n 0, 1) := by decide +kernel
theorem dX8_readsSegment_55 : decode cX8_readsSegment 55 = .ok (.invokevirtual 217, 3) := by decide +kernel
theorem dX8_readsSegment_58 : decode cX8_readsSegment 58 = .ok (.bipush 48, 2) := by decide +kernel
theorem dX8_readsSegment_60 : decode cX8_readsSegment 60 = .ok (.bipush 57, 2) := by decide +kernel
theorem dX8_readsSegment_62 : decode cX8_readsSegment 62 = .ok (.invokestatic 115, 3) := by decide +kernel
theorem dX8_readsSegment_65 : decode cX8_readsSegment 65 = .ok (.ifCond .ne 5, 3) := by decide +kernel
theorem dX8_readsSegment_68 : decode cX8_readsSegment 68 = .ok (.iconst 0, 1) := by decide +kernel
theorem dX8_readsSegment_69 : decode cX8_readsSegment 69 = .ok (.ireturn, 1) := by decide +kernel
theorem dX8_readsSegment_70 : decode cX8_readsSegment 70 = .ok (.aload_n 0, 1) := by decide +kernel
theorem dX8_readsSegment_71 : decode cX8_readsSegment 71 = .ok (.getfield 88, 3) := by decide +kernel
theorem dX8_readsSegment_74 : decode cX8_readsSegment 74 = .ok (.aload_n 0, 1) := by decide +kernel
theorem dX8_readsSegment_75 : decode cX8_readsSegment 75 = .ok (.getfield 224, 3) := by decide +kernel
theorem dX8_readsSegment_78 : decode cX8_readsSegment 78 = .ok (.iload_n 2, 1) := by decide +kernel
theorem dX8_readsSegment_79 : decode cX8_readsSegment 79 = .ok (.aload_n 0, 1) := by decide +kernel
theorem dX8_readsSegment_80 : decode cX8_readsSegment 80 = .ok (.invokevirtual 217, 3) := by decide +kernel
theorem dX8_readsSegment_83 : decode cX8_readsSegment 83 = .ok (.iadd, 1) := by decide +kernel
theorem dX8_readsSegment_84 : decode cX8_readsSegment 84 = .ok (.bipush 48, 2) := by decide +kernel
theorem dX8_readsSegment_86 : decode cX8_readsSegment 86 = .ok (.isub, 1) := by decide +kernel
theorem dX8_readsSegment_87 : decode cX8_readsSegment 87 = .ok (.iastore, 1) := by decide +kernel
theorem dX8_readsSegment_88 : decode cX8_readsSegment 88 = .ok (.aload_n 0, 1) := by decide +kernel
theorem dX8_readsSegment_89 : decode cX8_readsSegment 89 = .ok (.dup, 1) := by decide +kernel
theorem dX8_readsSegment_90 : decode cX8_readsSegment 90 = .ok (.getfield 214, 3) := by decide +kernel
theorem dX8_readsSegment_93 : decode cX8_readsSegment 93 = .ok (.iconst 1, 1) := by decide +kernel
theorem dX8_readsSegment_94 : decode cX8_readsSegment 94 = .ok (.iadd, 1) := by decide +kernel
theorem dX8_readsSegment_95 : decode cX8_readsSegment 95 = .ok (.putfield 214, 3) := by decide +kernel
theorem dX8_readsSegment_98 : decode cX8_readsSegment 98 = .ok (.goto 62, 3) := by decide +kernel
theorem dX8_readsSegment_101 : decode cX8_readsSegment 101 = .ok (.iload_n 1, 1) := by decide +kernel
theorem dX8_readsSegment_102 : decode cX8_readsSegment 102 = .ok (.bipush 97, 2) := by decide +kernel
theorem dX8_readsSegment_104 : decode cX8_readsSegment 104 = .ok (.bipush 100, 2) := by decide +kernel
theorem dX8_readsSegment_106 : decode cX8_readsSegment 106 = .ok (.invokestatic 115, 3) := by decide +kernel
theorem dX8_readsSegment_109 : decode cX8_readsSegment 109 = .ok (.ifCond .eq 19, 3) := by decide +kernel
theorem dX8_readsSegment_112 : decode cX8_readsSegment 112 = .ok (.aload_n 0, 1) := by decide +kernel
theorem dX8_readsSegment_113 : decode cX8_readsSegment 113 = .ok (.getfield 88, 3) := by decide +kernel
theorem dX8_readsSegment_116 : decode cX8_readsSegment 116 = .ok (.aload_n 0, 1) := by decide +kernel
theorem dX8_readsSegment_117 : decode cX8_readsSegment 117 = .ok (.getfield 224, 3) := by decide +kernel
theorem dX8_readsSegment_120 : decode cX8_readsSegment 120 = .ok (.iload_n 1, 1) := by decide +kernel
theorem dX8_readsSegment_121 : decode cX8_readsSegment 121 = .ok (.bipush 97, 2) := by decide +kernel
theorem dX8_readsSegment_123 : decode cX8_readsSegment 123 = .ok (.isub, 1) := by decide +kernel
theorem dX8_readsSegment_124 : decode cX8_readsSegment 124 = .ok (.iastore, 1) := by decide +kernel
theorem dX8_readsSegment_125 : decode cX8_readsSegment 125 = .ok (.goto 35, 3) := by decide +kernel
theorem dX8_readsSegment_128 : decode cX8_readsSegment 128 = .ok (.iload_n 1, 1) := by decide +kernel
theorem dX8_readsSegment_129 : decode cX8_readsSegment 129 = .ok (.bipush 42, 2) := by decide +kernel
theorem dX8_readsSegment_131 : decode cX8_readsSegment 131 = .ok (.if_icmp .ne 17, 3) := by decide +kernel
theorem dX8_readsSegment_134 : decode cX8_readsSegment 134 = .ok (.aload_n 0, 1) := by decide +kernel
theorem dX8_readsSegment_135 : decode cX8_readsSegment 135 = .ok (.getfield 88, 3) := by decide +kernel
theorem dX8_readsSegment_138 : decode cX8_readsSegment 138 = .ok (.aload_n 0, 1) := by decide +kernel
theorem dX8_readsSegment_139 : decode cX8_readsSegment 139 = .ok (.getfield 224, 3) := by decide +kernel
theorem dX8_readsSegment_142 : decode cX8_readsSegment 142 = .ok (.bipush 40, 2) := by decide +kernel
theorem dX8_readsSegment_144 : decode cX8_readsSegment 144 = .ok (.iastore, 1) := by decide +kernel
theorem dX8_readsSegment_145 : decode cX8_readsSegment 145 = .ok (.goto 15, 3) := by decide +kernel
theorem dX8_readsSegment_148 : decode cX8_readsSegment 148 = .ok (.aload_n 0, 1) := by decide +kernel
theorem dX8_readsSegment_149 : decode cX8_readsSegment 149 = .ok (.dup, 1) := by decide +kernel
theorem dX8_readsSegment_150 : decode cX8_readsSegment 150 = .ok (.getfield 214, 3) := by decide +kernel
theorem dX8_readsSegment_153 : decode cX8_readsSegment 153 = .ok (.iconst 1, 1) := by decide +kernel
theorem dX8_readsSegment_154 : decode cX8_readsSegment 154 = .ok (.isub, 1) := by decide +kernel
theorem dX8_readsSegment_155 : decode cX8_readsSegment 155 = .ok (.putfield 214, 3) := by decide +kernel
theorem dX8_readsSegment_158 : decode cX8_readsSegment 158 = .ok (.iconst 0, 1) := by decide +kernel
theorem dX8_readsSegment_159 : decode cX8_readsSegment 159 = .ok (.ireturn, 1) := by decide +kernel
theorem dX8_readsSegment_160 : decode cX8_readsSegment 160 = .ok (.aload_n 0, 1) := by decide +kernel
theorem dX8_readsSegment_161 : decode cX8_readsSegment 161 = .ok (.dup, 1) := by decide +kernel
theorem dX8_readsSegment_162 : decode cX8_readsSegment 162 = .ok (.getfield 224, 3) := by decide +kernel
theorem dX8_readsSegment_165 : decode cX8_readsSegment 165 = .ok (.iconst 1, 1) := by decide +kernel
theorem dX8_readsSegment_166 : decode cX8_readsSegment 166 = .ok (.iadd, 1) := by decide +kernel
theorem dX8_readsSegment_167 : decode cX8_readsSegment 167 = .ok (.putfield 224, 3) := by decide +kernel
theorem dX8_readsSegment_170 : decode cX8_readsSegment 170 = .ok (.iconst 1, 1) := by decide +kernel
theorem dX8_readsSegment_171 : decode cX8_readsSegment 171 = .ok (.ireturn, 1) := by decide +kernel
theorem sp_X8_readsSegment {t : List Nat} {i n : Nat} {D : Mem} (h : TPE D t i) (ha : ALV t i) (hq : qs t i = 4) (h37 : D 104 37 = nI n) (hn : n < 96) : Rix 2 j_X8_readsSegment [.ref 104] D (fun u D' => RSM t i n D u D') := by
  refine E.start 2 (ls := [some (.ref 104), none, none]) (by decide +kernel) (Nat.le_of_ble_eq_true rfl) rfl (Nat.le_refl _) (Nat.le_refl _) ?_
  refine X_aload_n (nx := 1) dX8_readsSegment_0 rfl rfl rfl ?_
  refine Y_Vi0 (nx := 4) dX8_readsSegment_1 rfl ml_RX8_217 kj_X8_sign kv_X8_sign (sp_X8_sign h) (by first | assumption | rfl | decide | omega) (by first | assumption | rfl | decide | omega) (by decide) rfl (by first | decide | omega) (by exact Nat.le_of_ble_eq_true rfl) ?_
  have h96 := h.2.2.2.2.1
  have hle := h.2.2.2.1
  by_cases hil : i < t.length
  · have hc := h.c hil
    rw [sgI_y hil]
    by_cases e1 : t.getD i 0 = 60
    · have hsg : sgo (t.getD i 0) (t.getD (i + 1) 0 - 48) = 10 + (t.getD (i + 1) 0 - 48) := sgo_n (Or.inl ⟨e1, rfl⟩)
      have has := ha.s hq (dl4_n (nam_c.mpr (Or.inl e1))) (by decide)
      refine X_top (y := 60) (by rw [e1]; rfl) ?_
      refine X_istore_n (i := 1) (nx := 5) dX8_readsSegment_4 rfl rfl (by decide) rfl (st_s (st_0)) ?_
      refine X_aload_n (nx := 6) dX8_readsSegment_5 rfl rfl rfl ?_
      refine X_dup (nx := 7) dX8_readsSegment_6 rfl rfl ?_
      refine M_getI (nx := 10) dX8_readsSegment_7 rfl fl_RX8_214 rfl (by first | assumption | rfl | decide | omega) (by first | assumption | rfl | decide | omega) ?_
      refine X_top (h.2.2.1) ?_
      refine X_iconst (v := 1) (nx := 11) dX8_readsSegment_10 rfl rfl ?_
      refine X_iadd (nx := 12) dX8_readsSegment_11 rfl ?_
      refine X_top (nI_1 _) ?_
      refine M_putI (nx := 15) dX8_readsSegment_12 rfl fl_RX8_214 rfl rfl (by first | assumption | rfl | decide | omega) (by first | assumption | rfl | decide | omega) ?_
      have h2 : TPE (up2 D 104 34 (nI (i + 1))) t (i + 1) := h.fq (up2_other (by omega)) (up2_ne (by omega)) up2_same hil
      refine X_iload_n (nx := 16) dX8_readsSegment_15 rfl rfl rfl ?_
      refine X_bipush (v := 60) (nx := 18) dX8_readsSegment_16 rfl rfl ?_
      refine X_icmp_ne (tgt := 26) (nx := 21) dX8_readsSegment_18 rfl rfl (fun h18 => ?_) (fun h18 => ?_)
      · exact absurd h18 (by decide)
      · skip
        refine X_bipush (v := nI 10) (nx := 23) dX8_readsSegment_21 rfl rfl ?_
        refine X_goto (tgt := 49) dX8_readsSegment_23 rfl ?_
        refine X_istore_n (i := 2) (nx := 50) dX8_readsSegment_49 rfl rfl (by decide) rfl (st_s (st_s (st_0))) ?_
        refine X_iload_n (nx := 51) dX8_readsSegment_50 rfl rfl rfl ?_
        refine X_if_le (tgt := 101) (nx := 54) dX8_readsSegment_51 rfl rfl (fun h51 => ?_) (fun h51 => ?_)
        · exact absurd h51 (by decide)
        · skip
          refine X_aload_n (nx := 55) dX8_readsSegment_54 rfl rfl rfl ?_
          refine Y_Vi0 (nx := 58) dX8_readsSegment_55 rfl ml_RX8_217 kj_X8_sign kv_X8_sign (sp_X8_sign h2) (by first | assumption | rfl | decide | omega) (by first | assumption | rfl | decide | omega) (by decide) rfl (by first | decide | omega) (by exact Nat.le_of_ble_eq_true rfl) ?_
          refine X_bipush (v := 48) (nx := 60) dX8_readsSegment_58 rfl rfl ?_
          refine X_bipush (v := 57) (nx := 62) dX8_readsSegment_60 rfl rfl ?_
          refine Y_Si3 (nx := 65) dX8_readsSegment_62 rfl ml_RX8_115 kj_X8_isIn ks_X8_isIn (sp_X8_isIn) (by first | decide | omega) (by exact Nat.le_of_ble_eq_true rfl) ?_
          refine X_top (congrArg b2i (sg_dig h2)) ?_
          refine X_if_ne (tgt := 70) (nx := 68) dX8_readsSegment_65 rfl rfl (fun h65 => ?_) (fun h65 => ?_)
          · skip
            have c65 := b2i_t.mp h65
            have hdb := dig_b (isd_t c65).2
            refine X_aload_n (nx := 71) dX8_readsSegment_70 rfl rfl rfl ?_
            refine M_getP (nx := 74) dX8_readsSegment_71 rfl fl_RX8_88 rfl (by first | assumption | rfl | decide | omega) (by first | assumption | rfl | decide | omega) (by first | assumption | rfl | decide | omega) ?_
            refine X_aload_n (nx := 75) dX8_readsSegment_74 rfl rfl rfl ?_
            refine M_getI (nx := 78) dX8_readsSegment_75 rfl fl_RX8_224 rfl (by first | assumption | rfl | decide | omega) (by first | assumption | rfl | decide | omega) ?_
            refine X_top ((up2_other (by omega)).trans h37) ?_
            refine X_iload_n (nx := 79) dX8_readsSegment_78 rfl rfl rfl ?_
            refine X_aload_n (nx := 80) dX8_readsSegment_79 rfl rfl rfl ?_
            refine Y_Vi0 (nx := 83) dX8_readsSegment_80 rfl ml_RX8_217 kj_X8_sign kv_X8_sign (sp_X8_sign h2) (by first | assumption | rfl | decide | omega) (by first | assumption | rfl | decide | omega) (by decide) rfl (by first | decide | omega) (by exact Nat.le_of_ble_eq_true rfl) ?_
            refine X_top (sgI_y (isd_t c65).1) ?_
            refine X_iadd (nx := 84) dX8_readsSegment_83 rfl ?_
            refine X_top (show _ = nI (10 + t.getD (i + 1) 0) from nI_add 10 _) ?_
            refine X_bipush (v := nI 48) (nx := 86) dX8_readsSegment_84 rfl rfl ?_
            refine X_isub (nx := 87) dX8_readsSegment_86 rfl ?_
            refine X_top (show _ = nI (sgo (t.getD i 0) (t.getD (i + 1) 0 - 48)) from (by rw [sub_nI (by omega), hsg]; congr 1; omega)) ?_
            refine M_st (a := 131) (L := 96) (nx := 88) dX8_readsSegment_87 rfl (by decide) (by decide) rfl (by decide) (by omega) ?_
            refine X_aload_n (nx := 89) dX8_readsSegment_88 rfl rfl rfl ?_
            refine X_dup (nx := 90) dX8_readsSegment_89 rfl rfl ?_
            refine M_getI (nx := 93) dX8_readsSegment_90 rfl fl_RX8_214 rfl (by first | assumption | rfl | decide | omega) (by first | assumption | rfl | decide | omega) ?_
            refine X_top ((up2_other (by omega)).trans up2_same) ?_
            refine X_iconst (v := 1) (nx := 94) dX8_readsSegment_93 rfl rfl ?_
            refine X_iadd (nx := 95) dX8_readsSegment_94 rfl ?_
            refine X_top (nI_1 _) ?_
            refine M_putI (nx := 98) dX8_readsSegment_95 rfl fl_RX8_214 rfl rfl (by first | assumption | rfl | decide | omega) (by first | assumption | rfl | decide | omega) ?_
            refine X_goto (tgt := 160) dX8_readsSegment_98 rfl ?_
            refine X_aload_n (nx := 161) dX8_readsSegment_160 rfl rfl rfl ?_
            refine X_dup (nx := 162) dX8_readsSegment_161 rfl rfl ?_
            refine M_getI (nx := 165) dX8_readsSegment_162 rfl fl_RX8_224 rfl (by first | assumption | rfl | decide | omega) (by first | assumption | rfl | decide | omega) ?_
            refine X_top ((up2_other (by omega)).trans ((up2_other (by omega)).trans ((up2_other (by omega)).trans h37))) ?_
            refine X_iconst (v := 1) (nx := 166) dX8_readsSegment_165 rfl rfl ?_
            refine X_iadd (nx := 167) dX8_readsSegment_166 rfl ?_
            refine X_top (nI_1 _) ?_
            refine M_putI (nx := 170) dX8_readsSegment_167 rfl fl_RX8_224 rfl rfl (by first | assumption | rfl | decide | omega) (by first | assumption | rfl | decide | omega) ?_
            refine X_iconst (v := 1) (nx := 171) dX8_readsSegment_170 rfl rfl ?_
            exact Z_reti dX8_readsSegment_171 (Or.inr ⟨rfl, by first | exact Or.inl rfl | exact Or.inr rfl | exact b2i_01 _ | assumption⟩) (by
              have hb := has.1.s has.2 (dl5_y (isd_t c65).2) (by decide)
              refine ⟨((Fq.up (by unfold RSQ; omega)).tr (Fq.up (by unfold RSQ; omega))).tr ((Fq.up (by unfold RSQ; omega)).tr (Fq.up (by unfold RSQ; omega))), Or.inl ⟨rfl, i + 1 + 1, ?_, hb.1, hb.2, by omega, fun k a b => ?_, ?_, up2_same⟩⟩
              · exact h2.fq (by rw [up2_other (by omega), up2_other (by omega), up2_other (by omega)]) (by rw [up2_ne (by omega), up2_ne (by omega), up2_ne (by omega)]) (by rw [up2_other (by omega)]; exact up2_same) (isd_t c65).1
              · by_cases e : k = i
                · subst e; omega
                · obtain rfl : k = i + 1 := (by omega)
                  omega
              · rw [up2_ne (by omega), up2_ne (by omega), up2_same])
          · skip
            have n65 := b2i_f.mp h65
            refine X_iconst (v := 0) (nx := 69) dX8_readsSegment_68 rfl rfl ?_
            exact Z_reti dX8_readsSegment_69 (Or.inr ⟨rfl, by first | exact Or.inl rfl | exact Or.inr rfl | exact b2i_01 _ | assumption⟩) ⟨Fq.up (by unfold RSQ; omega), Or.inr ⟨rfl, i + 1, up2_same, has.1.fail hil has.2 (by
              by_cases hi1 : i + 1 < t.length
              · exact Or.inl ⟨hi1, dl5_n (isd_f n65 hi1)⟩
              · exact Or.inr ⟨by omega, Or.inl (by decide)⟩)⟩⟩
    · by_cases e2 : t.getD i 0 = 62
      · have hsg : sgo (t.getD i 0) (t.getD (i + 1) 0 - 48) = 20 + (t.getD (i + 1) 0 - 48) := sgo_n (Or.inr (Or.inl ⟨e2, rfl⟩))
        have has := ha.s hq (dl4_n (nam_c.mpr (Or.inr (Or.inl e2)))) (by decide)
        refine X_top (y := 62) (by rw [e2]; rfl) ?_
        refine X_istore_n (i := 1) (nx := 5) dX8_readsSegment_4 rfl rfl (by decide) rfl (st_s (st_0)) ?_
        refine X_aload_n (nx := 6) dX8_readsSegment_5 rfl rfl rfl ?_
        refine X_dup (nx := 7) dX8_readsSegment_6 rfl rfl ?_
        refine M_getI (nx := 10) dX8_readsSegment_7 rfl fl_RX8_214 rfl (by first | assumption | rfl | decide | omega) (by first | assumption | rfl | decide | omega) ?_
        refine X_top (h.2.2.1) ?_
        refine X_iconst (v := 1) (nx := 11) dX8_readsSegment_10 rfl rfl ?_
        refine X_iadd (nx := 12) dX8_readsSegment_11 rfl ?_
        refine X_top (nI_1 _) ?_
        refine M_putI (nx := 15) dX8_readsSegment_12 rfl fl_RX8_214 rfl rfl (by first | assumption | rfl | decide | omega) (by first | assumption | rfl | decide | omega) ?_
        have h2 : TPE (up2 D 104 34 (nI (i + 1))) t (i + 1) := h.fq (up2_other (by omega)) (up2_ne (by omega)) up2_same hil
        refine X_iload_n (nx := 16) dX8_readsSegment_15 rfl rfl rfl ?_
        refine X_bipush (v := 60) (nx := 18) dX8_readsSegment_16 rfl rfl ?_
        refine X_icmp_ne (tgt := 26) (nx := 21) dX8_readsSegment_18 rfl rfl (fun h18 => ?_) (fun h18 => ?_)
        · skip
          refine X_iload_n (nx := 27) dX8_readsSegment_26 rfl rfl rfl ?_
          refine X_bipush (v := 62) (nx := 29) dX8_readsSegment_27 rfl rfl ?_
          refine X_icmp_ne (tgt := 37) (nx := 32) dX8_readsSegment_29 rfl rfl (fun h29 => ?_) (fun h29 => ?_)
          · exact absurd h29 (by decide)
          · skip
            refine X_bipush (v := nI 20) (nx := 34) dX8_readsSegment_32 rfl rfl ?_
            refine X_goto (tgt := 49) dX8_readsSegment_34 rfl ?_
            refine X_istore_n (i := 2) (nx := 50) dX8_readsSegment_49 rfl rfl (by decide) rfl (st_s (st_s (st_0))) ?_
            refine X_iload_n (nx := 51) dX8_readsSegment_50 rfl rfl rfl ?_
            refine X_if_le (tgt := 101) (nx := 54) dX8_readsSegment_51 rfl rfl (fun h51 => ?_) (fun h51 => ?_)
            · exact absurd h51 (by decide)
            · skip
              refine X_aload_n (nx := 55) dX8_readsSegment_54 rfl rfl rfl ?_
              refine Y_Vi0 (nx := 58) dX8_readsSegment_55 rfl ml_RX8_217 kj_X8_sign kv_X8_sign (sp_X8_sign h2) (by first | assumption | rfl | decide | omega) (by first | assumption | rfl | decide | omega) (by decide) rfl (by first | decide | omega) (by exact Nat.le_of_ble_eq_true rfl) ?_
              refine X_bipush (v := 48) (nx := 60) dX8_readsSegment_58 rfl rfl ?_
              refine X_bipush (v := 57) (nx := 62) dX8_readsSegment_60 rfl rfl ?_
              refine Y_Si3 (nx := 65) dX8_readsSegment_62 rfl ml_RX8_115 kj_X8_isIn ks_X8_isIn (sp_X8_isIn) (by first | decide | omega) (by exact Nat.le_of_ble_eq_true rfl) ?_
              refine X_top (congrArg b2i (sg_dig h2)) ?_
              refine X_if_ne (tgt := 70) (nx := 68) dX8_readsSegment_65 rfl rfl (fun h65 => ?_) (fun h65 => ?_)
              · skip
                have c65 := b2i_t.mp h65
                have hdb := dig_b (isd_t c65).2
                refine X_aload_n (nx := 71) dX8_readsSegment_70 rfl rfl rfl ?_
                refine M_getP (nx := 74) dX8_readsSegment_71 rfl fl_RX8_88 rfl (by first | assumption | rfl | decide | omega) (by first | assumption | rfl | decide | omega) (by first | assumption | rfl | decide | omega) ?_
                refine X_aload_n (nx := 75) dX8_readsSegment_74 rfl rfl rfl ?_
                refine M_getI (nx := 78) dX8_readsSegment_75 rfl fl_RX8_224 rfl (by first | assumption | rfl | decide | omega) (by first | assumption | rfl | decide | omega) ?_
                refine X_top ((up2_other (by omega)).trans h37) ?_
                refine X_iload_n (nx := 79) dX8_readsSegment_78 rfl rfl rfl ?_
                refine X_aload_n (nx := 80) dX8_readsSegment_79 rfl rfl rfl ?_
                refine Y_Vi0 (nx := 83) dX8_readsSegment_80 rfl ml_RX8_217 kj_X8_sign kv_X8_sign (sp_X8_sign h2) (by first | assumption | rfl | decide | omega) (by first | assumption | rfl | decide | omega) (by decide) rfl (by first | decide | omega) (by exact Nat.le_of_ble_eq_true rfl) ?_
                refine X_top (sgI_y (isd_t c65).1) ?_
                refine X_iadd (nx := 84) dX8_readsSegment_83 rfl ?_
                refine X_top (show _ = nI (20 + t.getD (i + 1) 0) from nI_add 20 _) ?_
                refine X_bipush (v := nI 48) (nx := 86) dX8_readsSegment_84 rfl rfl ?_
                refine X_isub (nx := 87) dX8_readsSegment_86 rfl ?_
                refine X_top (show _ = nI (sgo (t.getD i 0) (t.getD (i + 1) 0 - 48)) from (by rw [sub_nI (by omega), hsg]; congr 1; omega)) ?_
                refine M_st (a := 131) (L := 96) (nx := 88) dX8_readsSegment_87 rfl (by decide) (by decide) rfl (by decide) (by omega) ?_
                refine X_aload_n (nx := 89) dX8_readsSegment_88 rfl rfl rfl ?_
                refine X_dup (nx := 90) dX8_readsSegment_89 rfl rfl ?_
                refine M_getI (nx := 93) dX8_readsSegment_90 rfl fl_RX8_214 rfl (by first | assumption | rfl | decide | omega) (by first | assumption | rfl | decide | omega) ?_
                refine X_top ((up2_other (by omega)).trans up2_same) ?_
                refine X_iconst (v := 1) (nx := 94) dX8_readsSegment_93 rfl rfl ?_
                refine X_iadd (nx := 95) dX8_readsSegment_94 rfl ?_
                refine X_top (nI_1 _) ?_
                refine M_putI (nx := 98) dX8_readsSegment_95 rfl fl_RX8_214 rfl rfl (by first | assumption | rfl | decide | omega) (by first | assumption | rfl | decide | omega) ?_
                refine X_goto (tgt := 160) dX8_readsSegment_98 rfl ?_
                refine X_aload_n (nx := 161) dX8_readsSegment_160 rfl rfl rfl ?_
                refine X_dup (nx := 162) dX8_readsSegment_161 rfl rfl ?_
                refine M_getI (nx := 165) dX8_readsSegment_162 rfl fl_RX8_224 rfl (by first | assumption | rfl | decide | omega) (by first | assumption | rfl | decide | omega) ?_
                refine X_top ((up2_other (by omega)).trans ((up2_other (by omega)).trans ((up2_other (by omega)).trans h37))) ?_
                refine X_iconst (v := 1) (nx := 166) dX8_readsSegment_165 rfl rfl ?_
                refine X_iadd (nx := 167) dX8_readsSegment_166 rfl ?_
                refine X_top (nI_1 _) ?_
                refine M_putI (nx := 170) dX8_readsSegment_167 rfl fl_RX8_224 rfl rfl (by first | assumption | rfl | decide | omega) (by first | assumption | rfl | decide | omega) ?_
                refine X_iconst (v := 1) (nx := 171) dX8_readsSegment_170 rfl rfl ?_
                exact Z_reti dX8_readsSegment_171 (Or.inr ⟨rfl, by first | exact Or.inl rfl | exact Or.inr rfl | exact b2i_01 _ | assumption⟩) (by
                  have hb := has.1.s has.2 (dl5_y (isd_t c65).2) (by decide)
                  refine ⟨((Fq.up (by unfold RSQ; omega)).tr (Fq.up (by unfold RSQ; omega))).tr ((Fq.up (by unfold RSQ; omega)).tr (Fq.up (by unfold RSQ; omega))), Or.inl ⟨rfl, i + 1 + 1, ?_, hb.1, hb.2, by omega, fun k a b => ?_, ?_, up2_same⟩⟩
                  · exact h2.fq (by rw [up2_other (by omega), up2_other (by omega), up2_other (by omega)]) (by rw [up2_ne (by omega), up2_ne (by omega), up2_ne (by omega)]) (by rw [up2_other (by omega)]; exact up2_same) (isd_t c65).1
                  · by_cases e : k = i
                    · subst e; omega
                    · obtain rfl : k = i + 1 := (by omega)
                      omega
                  · rw [up2_ne (by omega), up2_ne (by omega), up2_same])
              · skip
                have n65 := b2i_f.mp h65
                refine X_iconst (v := 0) (nx := 69) dX8_readsSegment_68 rfl rfl ?_
                exact Z_reti dX8_readsSegment_69 (Or.inr ⟨rfl, by first | exact Or.inl rfl | exact Or.inr rfl | exact b2i_01 _ | assumption⟩) ⟨Fq.up (by unfold RSQ; omega), Or.inr ⟨rfl, i + 1, up2_same, has.1.fail hil has.2 (by
                  by_cases hi1 : i + 1 < t.length
                  · exact Or.inl ⟨hi1, dl5_n (isd_f n65 hi1)⟩
                  · exact Or.inr ⟨by omega, Or.inl (by decide)⟩)⟩⟩
        · exact absurd h18 (by decide)
      · by_cases e3 : t.getD i 0 = 58
        · have hsg : sgo (t.getD i 0) (t.getD (i + 1) 0 - 48) = 30 + (t.getD (i + 1) 0 - 48) := sgo_n (Or.inr (Or.inr ⟨e3, rfl⟩))
          have has := ha.s hq (dl4_n (nam_c.mpr (Or.inr (Or.inr e3)))) (by decide)
          refine X_top (y := 58) (by rw [e3]; rfl) ?_
          refine X_istore_n (i := 1) (nx := 5) dX8_readsSegment_4 rfl rfl (by decide) rfl (st_s (st_0)) ?_
          refine X_aload_n (nx := 6) dX8_readsSegment_5 rfl rfl rfl ?_
          refine X_dup (nx := 7) dX8_readsSegment_6 rfl rfl ?_
          refine M_getI (nx := 10) dX8_readsSegment_7 rfl fl_RX8_214 rfl (by first | assumption | rfl | decide | omega) (by first | assumption | rfl | decide | omega) ?_
          refine X_top (h.2.2.1) ?_
          refine X_iconst (v := 1) (nx := 11) dX8_readsSegment_10 rfl rfl ?_
          refine X_iadd (nx := 12) dX8_readsSegment_11 rfl ?_
          refine X_top (nI_1 _) ?_
          refine M_putI (nx := 15) dX8_readsSegment_12 rfl fl_RX8_214 rfl rfl (by first | assumption | rfl | decide | omega) (by first | assumption | rfl | decide | omega) ?_
          have h2 : TPE (up2 D 104 34 (nI (i + 1))) t (i + 1) := h.fq (up2_other (by omega)) (up2_ne (by omega)) up2_same hil
          refine X_iload_n (nx := 16) dX8_readsSegment_15 rfl rfl rfl ?_
          refine X_bipush (v := 60) (nx := 18) dX8_readsSegment_16 rfl rfl ?_
          refine X_icmp_ne (tgt := 26) (nx := 21) dX8_readsSegment_18 rfl rfl (fun h18 => ?_) (fun h18 => ?_)
          · skip
            refine X_iload_n (nx := 27) dX8_readsSegment_26 rfl rfl rfl ?_
            refine X_bipush (v := 62) (nx := 29) dX8_readsSegment_27 rfl rfl ?_
            refine X_icmp_ne (tgt := 37) (nx := 32) dX8_readsSegment_29 rfl rfl (fun h29 => ?_) (fun h29 => ?_)
            · skip
              refine X_iload_n (nx := 38) dX8_readsSegment_37 rfl rfl rfl ?_
              refine X_bipush (v := 58) (nx := 40) dX8_readsSegment_38 rfl rfl ?_
              refine X_icmp_ne (tgt := 48) (nx := 43) dX8_readsSegment_40 rfl rfl (fun h40 => ?_) (fun h40 => ?_)
              · exact absurd h40 (by decide)
              · skip
                refine X_bipush (v := nI 30) (nx := 45) dX8_readsSegment_43 rfl rfl ?_
                refine X_goto (tgt := 49) dX8_readsSegment_45 rfl ?_
                refine X_istore_n (i := 2) (nx := 50) dX8_readsSegment_49 rfl rfl (by decide) rfl (st_s (st_s (st_0))) ?_
                refine X_iload_n (nx := 51) dX8_readsSegment_50 rfl rfl rfl ?_
                refine X_if_le (tgt := 101) (nx := 54) dX8_readsSegment_51 rfl rfl (fun h51 => ?_) (fun h51 => ?_)
                · exact absurd h51 (by decide)
                · skip
                  refine X_aload_n (nx := 55) dX8_readsSegment_54 rfl rfl rfl ?_
                  refine Y_Vi0 (nx := 58) dX8_readsSegment_55 rfl ml_RX8_217 kj_X8_sign kv_X8_sign (sp_X8_sign h2) (by first | assumption | rfl | decide | omega) (by first | assumption | rfl | decide | omega) (by decide) rfl (by first | decide | omega) (by exact Nat.le_of_ble_eq_true rfl) ?_
                  refine X_bipush (v := 48) (nx := 60) dX8_readsSegment_58 rfl rfl ?_
                  refine X_bipush (v := 57) (nx := 62) dX8_readsSegment_60 rfl rfl ?_
                  refine Y_Si3 (nx := 65) dX8_readsSegment_62 rfl ml_RX8_115 kj_X8_isIn ks_X8_isIn (sp_X8_isIn) (by first | decide | omega) (by exact Nat.le_of_ble_eq_true rfl) ?_
                  refine X_top (congrArg b2i (sg_dig h2)) ?_
                  refine X_if_ne (tgt := 70) (nx := 68) dX8_readsSegment_65 rfl rfl (fun h65 => ?_) (fun h65 => ?_)
                  · skip
                    have c65 := b2i_t.mp h65
                    have hdb := dig_b (isd_t c65).2
                    refine X_aload_n (nx := 71) dX8_readsSegment_70 rfl rfl rfl ?_
                    refine M_getP (nx := 74) dX8_readsSegment_71 rfl fl_RX8_88 rfl (by first | assumption | rfl | decide | omega) (by first | assumption | rfl | decide | omega) (by first | assumption | rfl | decide | omega) ?_
                    refine X_aload_n (nx := 75) dX8_readsSegment_74 rfl rfl rfl ?_
                    refine M_getI (nx := 78) dX8_readsSegment_75 rfl fl_RX8_224 rfl (by first | assumption | rfl | decide | omega) (by first | assumption | rfl | decide | omega) ?_
                    refine X_top ((up2_other (by omega)).trans h37) ?_
                    refine X_iload_n (nx := 79) dX8_readsSegment_78 rfl rfl rfl ?_
                    refine X_aload_n (nx := 80) dX8_readsSegment_79 rfl rfl rfl ?_
                    refine Y_Vi0 (nx := 83) dX8_readsSegment_80 rfl ml_RX8_217 kj_X8_sign kv_X8_sign (sp_X8_sign h2) (by first | assumption | rfl | decide | omega) (by first | assumption | rfl | decide | omega) (by decide) rfl (by first | decide | omega) (by exact Nat.le_of_ble_eq_true rfl) ?_
                    refine X_top (sgI_y (isd_t c65).1) ?_
                    refine X_iadd (nx := 84) dX8_readsSegment_83 rfl ?_
                    refine X_top (show _ = nI (30 + t.getD (i + 1) 0) from nI_add 30 _) ?_
                    refine X_bipush (v := nI 48) (nx := 86) dX8_readsSegment_84 rfl rfl ?_
                    refine X_isub (nx := 87) dX8_readsSegment_86 rfl ?_
                    refine X_top (show _ = nI (sgo (t.getD i 0) (t.getD (i + 1) 0 - 48)) from (by rw [sub_nI (by omega), hsg]; congr 1; omega)) ?_
                    refine M_st (a := 131) (L := 96) (nx := 88) dX8_readsSegment_87 rfl (by decide) (by decide) rfl (by decide) (by omega) ?_
                    refine X_aload_n (nx := 89) dX8_readsSegment_88 rfl rfl rfl ?_
                    refine X_dup (nx := 90) dX8_readsSegment_89 rfl rfl ?_
                    refine M_getI (nx := 93) dX8_readsSegment_90 rfl fl_RX8_214 rfl (by first | assumption | rfl | decide | omega) (by first | assumption | rfl | decide | omega) ?_
                    refine X_top ((up2_other (by omega)).trans up2_same) ?_
                    refine X_iconst (v := 1) (nx := 94) dX8_readsSegment_93 rfl rfl ?_
                    refine X_iadd (nx := 95) dX8_readsSegment_94 rfl ?_
                    refine X_top (nI_1 _) ?_
                    refine M_putI (nx := 98) dX8_readsSegment_95 rfl fl_RX8_214 rfl rfl (by first | assumption | rfl | decide | omega) (by first | assumption | rfl | decide | omega) ?_
                    refine X_goto (tgt := 160) dX8_readsSegment_98 rfl ?_
                    refine X_aload_n (nx := 161) dX8_readsSegment_160 rfl rfl rfl ?_
                    refine X_dup (nx := 162) dX8_readsSegment_161 rfl rfl ?_
                    refine M_getI (nx := 165) dX8_readsSegment_162 rfl fl_RX8_224 rfl (by first | assumption | rfl | decide | omega) (by first | assumption | rfl | decide | omega) ?_
                    refine X_top ((up2_other (by omega)).trans ((up2_other (by omega)).trans ((up2_other (by omega)).trans h37))) ?_
                    refine X_iconst (v := 1) (nx := 166) dX8_readsSegment_165 rfl rfl ?_
                    refine X_iadd (nx := 167) dX8_readsSegment_166 rfl ?_
                    refine X_top (nI_1 _) ?_
                    refine M_putI (nx := 170) dX8_readsSegment_167 rfl fl_RX8_224 rfl rfl (by first | assumption | rfl | decide | omega) (by first | assumption | rfl | decide | omega) ?_
                    refine X_iconst (v := 1) (nx := 171) dX8_readsSegment_170 rfl rfl ?_
                    exact Z_reti dX8_readsSegment_171 (Or.inr ⟨rfl, by first | exact Or.inl rfl | exact Or.inr rfl | exact b2i_01 _ | assumption⟩) (by
                      have hb := has.1.s has.2 (dl5_y (isd_t c65).2) (by decide)
                      refine ⟨((Fq.up (by unfold RSQ; omega)).tr (Fq.up (by unfold RSQ; omega))).tr ((Fq.up (by unfold RSQ; omega)).tr (Fq.up (by unfold RSQ; omega))), Or.inl ⟨rfl, i + 1 + 1, ?_, hb.1, hb.2, by omega, fun k a b => ?_, ?_, up2_same⟩⟩
                      · exact h2.fq (by rw [up2_other (by omega), up2_other (by omega), up2_other (by omega)]) (by rw [up2_ne (by omega), up2_ne (by omega), up2_ne (by omega)]) (by rw [up2_other (by omega)]; exact up2_same) (isd_t c65).1
                      · by_cases e : k = i
                        · subst e; omega
                        · obtain rfl : k = i + 1 := (by omega)
                          omega
                      · rw [up2_ne (by omega), up2_ne (by omega), up2_same])
                  · skip
                    have n65 := b2i_f.mp h65
                    refine X_iconst (v := 0) (nx := 69) dX8_readsSegment_68 rfl rfl ?_
                    exact Z_reti dX8_readsSegment_69 (Or.inr ⟨rfl, by first | exact Or.inl rfl | exact Or.inr rfl | exact b2i_01 _ | assumption⟩) ⟨Fq.up (by unfold RSQ; omega), Or.inr ⟨rfl, i + 1, up2_same, has.1.fail hil has.2 (by
                      by_cases hi1 : i + 1 < t.length
                      · exact Or.inl ⟨hi1, dl5_n (isd_f n65 hi1)⟩
                      · exact Or.inr ⟨by omega, Or.inl (by decide)⟩)⟩⟩
            · exact absurd h29 (by decide)
          · exact absurd h18 (by decide)
        · have hn3 : ¬ (t.getD i 0 = 60 ∨ t.getD i 0 = 62 ∨ t.getD i 0 = 58) := by omega
          refine X_istore_n (i := 1) (nx := 5) dX8_readsSegment_4 rfl rfl (by decide) rfl (st_s (st_0)) ?_
          refine X_aload_n (nx := 6) dX8_readsSegment_5 rfl rfl rfl ?_
          refine X_dup (nx := 7) dX8_readsSegment_6 rfl rfl ?_
          refine M_getI (nx := 10) dX8_readsSegment_7 rfl fl_RX8_214 rfl (by first | assumption | rfl | decide | omega) (by first | assumption | rfl | decide | omega) ?_
          refine X_top (h.2.2.1) ?_
          refine X_iconst (v := 1) (nx := 11) dX8_readsSegment_10 rfl rfl ?_
          refine X_iadd (nx := 12) dX8_readsSegment_11 rfl ?_
          refine X_top (nI_1 _) ?_
          refine M_putI (nx := 15) dX8_readsSegment_12 rfl fl_RX8_214 rfl rfl (by first | assumption | rfl | decide | omega) (by first | assumption | rfl | decide | omega) ?_
          have h2 : TPE (up2 D 104 34 (nI (i + 1))) t (i + 1) := h.fq (up2_other (by omega)) (up2_ne (by omega)) up2_same hil
          refine X_iload_n (nx := 16) dX8_readsSegment_15 rfl rfl rfl ?_
          refine X_bipush (v := nI 60) (nx := 18) dX8_readsSegment_16 rfl rfl ?_
          refine X_icmp_ne (tgt := 26) (nx := 21) dX8_readsSegment_18 rfl rfl (fun h18 => ?_) (fun h18 => ?_)
          · skip
            refine X_iload_n (nx := 27) dX8_readsSegment_26 rfl rfl rfl ?_
            refine X_bipush (v := nI 62) (nx := 29) dX8_readsSegment_27 rfl rfl ?_
            refine X_icmp_ne (tgt := 37) (nx := 32) dX8_readsSegment_29 rfl rfl (fun h29 => ?_) (fun h29 => ?_)
            · skip
              refine X_iload_n (nx := 38) dX8_readsSegment_37 rfl rfl rfl ?_
              refine X_bipush (v := nI 58) (nx := 40) dX8_readsSegment_38 rfl rfl ?_
              refine X_icmp_ne (tgt := 48) (nx := 43) dX8_readsSegment_40 rfl rfl (fun h40 => ?_) (fun h40 => ?_)
              · skip
                refine X_iconst (v := 0) (nx := 49) dX8_readsSegment_48 rfl rfl ?_
                refine X_istore_n (i := 2) (nx := 50) dX8_readsSegment_49 rfl rfl (by decide) rfl (st_s (st_s (st_0))) ?_
                refine X_iload_n (nx := 51) dX8_readsSegment_50 rfl rfl rfl ?_
                refine X_if_le (tgt := 101) (nx := 54) dX8_readsSegment_51 rfl rfl (fun h51 => ?_) (fun h51 => ?_)
                · skip
                  refine X_iload_n (nx := 102) dX8_readsSegment_101 rfl rfl rfl ?_
                  refine X_bipush (v := 97) (nx := 104) dX8_readsSegment_102 rfl rfl ?_
                  refine X_bipush (v := 100) (nx := 106) dX8_readsSegment_104 rfl rfl ?_
                  refine Y_Si3 (nx := 109) dX8_readsSegment_106 rfl ml_RX8_115 kj_X8_isIn ks_X8_isIn (sp_X8_isIn) (by first | decide | omega) (by exact Nat.le_of_ble_eq_true rfl) ?_
                  refine X_top (congrArg b2i (in_let (by omega))) ?_
                  refine X_if_eq (tgt := 128) (nx := 112) dX8_readsSegment_109 rfl rfl (fun h109 => ?_) (fun h109 => ?_)
                  · skip
                    have n109 := of_decide_eq_false (b2i_f.mp h109)
                    refine X_iload_n (nx := 129) dX8_readsSegment_128 rfl rfl rfl ?_
                    refine X_bipush (v := nI 42) (nx := 131) dX8_readsSegment_129 rfl rfl ?_
                    refine X_icmp_ne (tgt := 148) (nx := 134) dX8_readsSegment_131 rfl rfl (fun h131 => ?_) (fun h131 => ?_)
                    · skip
                      rw [nI_eq (by omega) (by omega)] at h131
                      refine X_aload_n (nx := 149) dX8_readsSegment_148 rfl rfl rfl ?_
                      refine X_dup (nx := 150) dX8_readsSegment_149 rfl rfl ?_
                      refine M_getI (nx := 153) dX8_readsSegment_150 rfl fl_RX8_214 rfl (by first | assumption | rfl | decide | omega) (by first | assumption | rfl | decide | omega) ?_
                      refine X_top (up2_same) ?_
                      refine X_iconst (v := 1) (nx := 154) dX8_readsSegment_153 rfl rfl ?_
                      refine X_isub (nx := 155) dX8_readsSegment_154 rfl ?_
                      refine X_top (show _ = nI i from (by rw [show (1 : Int32) = nI 1 from rfl, sub_nI (by omega)]; rfl)) ?_
                      refine M_putI (nx := 158) dX8_readsSegment_155 rfl fl_RX8_214 rfl rfl (by first | assumption | rfl | decide | omega) (by first | assumption | rfl | decide | omega) ?_
                      refine X_iconst (v := 0) (nx := 159) dX8_readsSegment_158 rfl rfl ?_
                      exact Z_reti dX8_readsSegment_159 (Or.inr ⟨rfl, by first | exact Or.inl rfl | exact Or.inr rfl | exact b2i_01 _ | assumption⟩) ⟨(Fq.up (by unfold RSQ; omega)).tr (Fq.up (by unfold RSQ; omega)), Or.inr ⟨rfl, i, up2_same, ha.fail (by omega) hq (Or.inl ⟨hil, dl4_d hn3 (fun q => q.elim h131 n109)⟩)⟩⟩
                    · skip
                      rw [nI_eq (by omega) (by omega)] at h131
                      have hok : t.getD i 0 = 42 ∨ (97 ≤ t.getD i 0 ∧ t.getD i 0 ≤ 100) := Or.inl h131
                      have hsg : 40 = sgo (t.getD i 0) (t.getD (i + 1) 0 - 48) := (by rw [h131]; rfl)
                      refine X_aload_n (nx := 135) dX8_readsSegment_134 rfl rfl rfl ?_
                      refine M_getP (nx := 138) dX8_readsSegment_135 rfl fl_RX8_88 rfl (by first | assumption | rfl | decide | omega) (by first | assumption | rfl | decide | omega) (by first | assumption | rfl | decide | omega) ?_
                      refine X_aload_n (nx := 139) dX8_readsSegment_138 rfl rfl rfl ?_
                      refine M_getI (nx := 142) dX8_readsSegment_139 rfl fl_RX8_224 rfl (by first | assumption | rfl | decide | omega) (by first | assumption | rfl | decide | omega) ?_
                      refine X_top ((up2_other (by omega)).trans h37) ?_
                      refine X_bipush (v := nI 40) (nx := 144) dX8_readsSegment_142 rfl rfl ?_
                      refine M_st (a := 131) (L := 96) (nx := 145) dX8_readsSegment_144 rfl (by decide) (by decide) rfl (by decide) (by omega) ?_
                      refine X_goto (tgt := 160) dX8_readsSegment_145 rfl ?_
                      refine X_aload_n (nx := 161) dX8_readsSegment_160 rfl rfl rfl ?_
                      refine X_dup (nx := 162) dX8_readsSegment_161 rfl rfl ?_
                      refine M_getI (nx := 165) dX8_readsSegment_162 rfl fl_RX8_224 rfl (by first | assumption | rfl | decide | omega) (by first | assumption | rfl | decide | omega) ?_
                      refine X_top ((up2_other (by omega)).trans ((up2_other (by omega)).trans h37)) ?_
                      refine X_iconst (v := 1) (nx := 166) dX8_readsSegment_165 rfl rfl ?_
                      refine X_iadd (nx := 167) dX8_readsSegment_166 rfl ?_
                      refine X_top (nI_1 _) ?_
                      refine M_putI (nx := 170) dX8_readsSegment_167 rfl fl_RX8_224 rfl rfl (by first | assumption | rfl | decide | omega) (by first | assumption | rfl | decide | omega) ?_
                      refine X_iconst (v := 1) (nx := 171) dX8_readsSegment_170 rfl rfl ?_
                      exact Z_reti dX8_readsSegment_171 (Or.inr ⟨rfl, by first | exact Or.inl rfl | exact Or.inr rfl | exact b2i_01 _ | assumption⟩) (by
                        have hb := ha.s hq (dl4_l hn3 hok) (by decide)
                        refine ⟨(Fq.up (by unfold RSQ; omega)).tr ((Fq.up (by unfold RSQ; omega)).tr (Fq.up (by unfold RSQ; omega))), Or.inl ⟨rfl, i + 1, ?_, hb.1, hb.2, by omega, fun k a b => ?_, ?_, up2_same⟩⟩
                        · exact h2.fq (by rw [up2_other (by omega), up2_other (by omega)]) (by rw [up2_ne (by omega), up2_ne (by omega)]) (by rw [up2_other (by omega), up2_other (by omega)]; exact up2_same) hil
                        · obtain rfl : k = i := (by omega)
                          omega
                        · rw [up2_ne (by omega), up2_same]; exact congrArg nI hsg)
                  · skip
                    have c109 := of_decide_eq_true (b2i_t.mp h109)
                    have hok : t.getD i 0 = 42 ∨ (97 ≤ t.getD i 0 ∧ t.getD i 0 ≤ 100) := Or.inr c109
                    have hsg : t.getD i 0 - 97 = sgo (t.getD i 0) (t.getD (i + 1) 0 - 48) := (sgo_l c109.1).symm
                    refine X_aload_n (nx := 113) dX8_readsSegment_112 rfl rfl rfl ?_
                    refine M_getP (nx := 116) dX8_readsSegment_113 rfl fl_RX8_88 rfl (by first | assumption | rfl | decide | omega) (by first | assumption | rfl | decide | omega) (by first | assumption | rfl | decide | omega) ?_
                    refine X_aload_n (nx := 117) dX8_readsSegment_116 rfl rfl rfl ?_
                    refine M_getI (nx := 120) dX8_readsSegment_117 rfl fl_RX8_224 rfl (by first | assumption | rfl | decide | omega) (by first | assumption | rfl | decide | omega) ?_
                    refine X_top ((up2_other (by omega)).trans h37) ?_
                    refine X_iload_n (nx := 121) dX8_readsSegment_120 rfl rfl rfl ?_
                    refine X_bipush (v := nI 97) (nx := 123) dX8_readsSegment_121 rfl rfl ?_
                    refine X_isub (nx := 124) dX8_readsSegment_123 rfl ?_
                    refine X_top (sub_nI (by omega)) ?_
                    refine M_st (a := 131) (L := 96) (nx := 125) dX8_readsSegment_124 rfl (by decide) (by decide) rfl (by decide) (by omega) ?_
                    refine X_goto (tgt := 160) dX8_readsSegment_125 rfl ?_
                    refine X_aload_n (nx := 161) dX8_readsSegment_160 rfl rfl rfl ?_
                    refine X_dup (nx := 162) dX8_readsSegment_161 rfl rfl ?_
                    refine M_getI (nx := 165) dX8_readsSegment_162 rfl fl_RX8_224 rfl (by first | assumption | rfl | decide | omega) (by first | assumption | rfl | decide | omega) ?_
                    refine X_top ((up2_other (by omega)).trans ((up2_other (by omega)).trans h37)) ?_
                    refine X_iconst (v := 1) (nx := 166) dX8_readsSegment_165 rfl rfl ?_
                    refine X_iadd (nx := 167) dX8_readsSegment_166 rfl ?_
                    refine X_top (nI_1 _) ?_
                    refine M_putI (nx := 170) dX8_readsSegment_167 rfl fl_RX8_224 rfl rfl (by first | assumption | rfl | decide | omega) (by first | assumption | rfl | decide | omega) ?_
                    refine X_iconst (v := 1) (nx := 171) dX8_readsSegment_170 rfl rfl ?_
                    exact Z_reti dX8_readsSegment_171 (Or.inr ⟨rfl, by first | exact Or.inl rfl | exact Or.inr rfl | exact b2i_01 _ | assumption⟩) (by
                      have hb := ha.s hq (dl4_l hn3 hok) (by decide)
                      refine ⟨(Fq.up (by unfold RSQ; omega)).tr ((Fq.up (by unfold RSQ; omega)).tr (Fq.up (by unfold RSQ; omega))), Or.inl ⟨rfl, i + 1, ?_, hb.1, hb.2, by omega, fun k a b => ?_, ?_, up2_same⟩⟩
                      · exact h2.fq (by rw [up2_other (by omega), up2_other (by omega)]) (by rw [up2_ne (by omega), up2_ne (by omega)]) (by rw [up2_other (by omega), up2_other (by omega)]; exact up2_same) hil
                      · obtain rfl : k = i := (by omega)
                        omega
                      · rw [up2_ne (by omega), up2_same]; exact congrArg nI hsg)
                · exact absurd h51 (by decide)
              · exact absurd h40 (fun q => hn3 (Or.inr (Or.inr ((nI_eq (b := 58) (by omega) (by omega)).mp q))))
            · exact absurd h29 (fun q => hn3 (Or.inr (Or.inl ((nI_eq (b := 62) (by omega) (by omega)).mp q))))
          · exact absurd h18 (fun q => hn3 (Or.inl ((nI_eq (b := 60) (by omega) (by omega)).mp q)))
  · rw [sgI_n hil]
    refine X_istore_n (i := 1) (nx := 5) dX8_readsSegment_4 rfl rfl (by decide) rfl (st_s (st_0)) ?_
    refine X_aload_n (nx := 6) dX8_readsSegment_5 rfl rfl rfl ?_
    refine X_dup (nx := 7) dX8_readsSegment_6 rfl rfl ?_
    refine M_getI (nx := 10) dX8_readsSegment_7 rfl fl_RX8_214 rfl (by first | assumption | rfl | decide | omega) (by first | assumption | rfl | decide | omega) ?_
    refine X_top (h.2.2.1) ?_
    refine X_iconst (v := 1) (nx := 11) dX8_readsSegment_10 rfl rfl ?_
    refine X_iadd (nx := 12) dX8_readsSegment_11 rfl ?_
    refine X_top (nI_1 _) ?_
    refine M_putI (nx := 15) dX8_readsSegment_12 rfl fl_RX8_214 rfl rfl (by first | assumption | rfl | decide | omega) (by first | assumption | rfl | decide | omega) ?_
    refine X_iload_n (nx := 16) dX8_readsSegment_15 rfl rfl rfl ?_
    refine X_bipush (v := 60) (nx := 18) dX8_readsSegment_16 rfl rfl ?_
    refine X_icmp_ne (tgt := 26) (nx := 21) dX8_readsSegment_18 rfl rfl (fun h18 => ?_) (fun h18 => ?_)
    · skip
      refine X_iload_n (nx := 27) dX8_readsSegment_26 rfl rfl rfl ?_
      refine X_bipush (v := 62) (nx := 29) dX8_readsSegment_27 rfl rfl ?_
      refine X_icmp_ne (tgt := 37) (nx := 32) dX8_readsSegment_29 rfl rfl (fun h29 => ?_) (fun h29 => ?_)
      · skip
        refine X_iload_n (nx := 38) dX8_readsSegment_37 rfl rfl rfl ?_
        refine X_bipush (v := 58) (nx := 40) dX8_readsSegment_38 rfl rfl ?_
        refine X_icmp_ne (tgt := 48) (nx := 43) dX8_readsSegment_40 rfl rfl (fun h40 => ?_) (fun h40 => ?_)
        · skip
          refine X_iconst (v := 0) (nx := 49) dX8_readsSegment_48 rfl rfl ?_
          refine X_istore_n (i := 2) (nx := 50) dX8_readsSegment_49 rfl rfl (by decide) rfl (st_s (st_s (st_0))) ?_
          refine X_iload_n (nx := 51) dX8_readsSegment_50 rfl rfl rfl ?_
          refine X_if_le (tgt := 101) (nx := 54) dX8_readsSegment_51 rfl rfl (fun h51 => ?_) (fun h51 => ?_)
          · skip
            refine X_iload_n (nx := 102) dX8_readsSegment_101 rfl rfl rfl ?_
            refine X_bipush (v := 97) (nx := 104) dX8_readsSegment_102 rfl rfl ?_
            refine X_bipush (v := 100) (nx := 106) dX8_readsSegment_104 rfl rfl ?_
            refine Y_Si3 (nx := 109) dX8_readsSegment_106 rfl ml_RX8_115 kj_X8_isIn ks_X8_isIn (sp_X8_isIn) (by first | decide | omega) (by exact Nat.le_of_ble_eq_true rfl) ?_
            refine X_top (show _ = (0 : Int32) from by decide) ?_
            refine X_if_eq (tgt := 128) (nx := 112) dX8_readsSegment_109 rfl rfl (fun h109 => ?_) (fun h109 => ?_)
            · skip
              refine X_iload_n (nx := 129) dX8_readsSegment_128 rfl rfl rfl ?_
              refine X_bipush (v := 42) (nx := 131) dX8_readsSegment_129 rfl rfl ?_
              refine X_icmp_ne (tgt := 148) (nx := 134) dX8_readsSegment_131 rfl rfl (fun h131 => ?_) (fun h131 => ?_)
              · skip
                refine X_aload_n (nx := 149) dX8_readsSegment_148 rfl rfl rfl ?_
                refine X_dup (nx := 150) dX8_readsSegment_149 rfl rfl ?_
                refine M_getI (nx := 153) dX8_readsSegment_150 rfl fl_RX8_214 rfl (by first | assumption | rfl | decide | omega) (by first | assumption | rfl | decide | omega) ?_
                refine X_top (up2_same) ?_
                refine X_iconst (v := 1) (nx := 154) dX8_readsSegment_153 rfl rfl ?_
                refine X_isub (nx := 155) dX8_readsSegment_154 rfl ?_
                refine X_top (show _ = nI i from (by rw [show (1 : Int32) = nI 1 from rfl, sub_nI (by omega)]; rfl)) ?_
                refine M_putI (nx := 158) dX8_readsSegment_155 rfl fl_RX8_214 rfl rfl (by first | assumption | rfl | decide | omega) (by first | assumption | rfl | decide | omega) ?_
                refine X_iconst (v := 0) (nx := 159) dX8_readsSegment_158 rfl rfl ?_
                exact Z_reti dX8_readsSegment_159 (Or.inr ⟨rfl, by first | exact Or.inl rfl | exact Or.inr rfl | exact b2i_01 _ | assumption⟩) ⟨(Fq.up (by unfold RSQ; omega)).tr (Fq.up (by unfold RSQ; omega)), Or.inr ⟨rfl, i, up2_same, ha.fail (by omega) hq (Or.inr ⟨by omega, Or.inl (by decide)⟩)⟩⟩
              · exact absurd h131 (by decide)
            · exact absurd h109 (by decide)
          · exact absurd h51 (by decide)
        · exact absurd h40 (by decide)
      · exact absurd h29 (by decide)
    · exact absurd h18 (by decide)
