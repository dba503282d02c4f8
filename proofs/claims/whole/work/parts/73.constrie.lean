/-! CONSTRUCTORS: the trie -/
theorem clamp {i : Nat} (h : i < 2147483648) : (nI i).toNatClampNeg = i := by rw [Int32.toNatClampNeg, nI_toInt h]; rfl
theorem sp_put0 {a i k n : Nat} {v : Int32} {P : Ptr} {D : Mem} (ha : a < n) (hc : (lay a).1 = 8) (hi : i < (lay a).2) (hL : (lay a).2 ≤ 1000) (hn : n = k) (hk : k ≤ 138) : E 1 k j_X7_put [.ref a, .int (nI i), .int v] (n, P, D) (fun vs σ' => vs = [] ∧ σ' = (n, P, up2 D a i v)) := by
  refine E.start 0 (ls := [some (.ref a), some (.int (nI i)), some (.int v)]) (by decide +kernel) (Nat.le_of_ble_eq_true rfl) rfl (Nat.le_of_eq hn) hk ?_
  refine X_iload_n (nx := 1) dX7_put_0 rfl rfl rfl ?_
  refine X_if_lt (tgt := 14) (nx := 4) dX7_put_1 rfl rfl (fun h1 => ?_) (fun h1 => ?_)
  · exact absurd h1 (nI_neg (by omega))
  · skip
    refine X_iload_n (nx := 5) dX7_put_4 rfl rfl rfl ?_
    refine X_aload_n (nx := 6) dX7_put_5 rfl rfl rfl ?_
    refine X_alen (nx := 7) dX7_put_6 rfl ha (Or.inl hc) ?_
    refine X_icmp_ge (tgt := 14) (nx := 10) dX7_put_7 rfl rfl (fun h7 => ?_) (fun h7 => ?_)
    · exact absurd h7 (fun w => by rw [nI_leI (by omega) (by omega)] at w; omega)
    · refine X_aload_n (nx := 11) dX7_put_10 rfl rfl rfl ?_
      refine X_iload_n (nx := 12) dX7_put_11 rfl rfl rfl ?_
      refine X_iload_n (nx := 13) dX7_put_12 rfl rfl rfl ?_
      refine X_iast (nx := 14) dX7_put_13 rfl ha hc (fun q => q.elim (fun w => nI_neg (by omega) w) (fun w => by rw [clamp (by omega)] at w; omega)) ?_
      refine X_ret ⟨rfl, dX7_put_14⟩ hn ⟨rfl, ?_⟩
      rw [clamp (by omega)]
def ad5Z (D : Mem) (s : Nat) (x : Int32) : Mem := up2 (up2 (up2 (up2 (up2 D 82 s x) 83 s 0) 84 s 0) 85 s 0) 86 s 0
def adZ (D : Mem) (s : Nat) (m : Nat) : Mem := fun b i => if b = 81 ∧ 7 * s ≤ i ∧ i < 7 * s + m then -9 else D b i
theorem adZ_0 {D : Mem} {s : Nat} : adZ D s 0 = D := funext fun b => funext fun i => if_neg (by omega)
theorem adZ_s {D : Mem} {s m : Nat} : up2 (adZ D s m) 81 (7 * s + m) (-9) = adZ D s (m + 1) := by
  funext b i
  show (if b = 81 ∧ i = 7 * s + m then (-9 : Int32) else (if b = 81 ∧ 7 * s ≤ i ∧ i < 7 * s + m then -9 else D b i)) = (if b = 81 ∧ 7 * s ≤ i ∧ i < 7 * s + (m + 1) then -9 else D b i)
  by_cases h : b = 81 ∧ 7 * s ≤ i ∧ i < 7 * s + (m + 1)
  · rw [if_pos h]
    by_cases q : b = 81 ∧ i = 7 * s + m
    · rw [if_pos q]
    · rw [if_neg q, if_pos (by omega)]
  · rw [if_neg h, if_neg (by omega), if_neg (by omega)]
theorem lp_addNode0 {P : Ptr} {D : Mem} {s : Nat} {x : Int32} (hP : ∀ i, P 80 i = P0 80 i) (hs : D 80 11 = nI s) (hs2 : s < 43) : ∀ (m : Nat) (i : Nat), i + m = 7 → X 2 92 j_X5_addNode 52 [some (.ref 80), some (.int x), some (.int (nI s)), some (.int (nI i))] [] (92, P, adZ (ad5Z D s x) s i) (fun vs σ' => vs = [.int (nI s)] ∧ σ' = (92, P, up2 (adZ (ad5Z D s x) s 7) 80 11 (nI (s + 1)))) := by
  intro m
  induction m with
  | zero =>
    intro i hi
    have e81 : adZ (ad5Z D s x) s i 80 11 = nI s := (if_neg (by omega)).trans ((congrFun ((up2_ne (by omega)).trans ((up2_ne (by omega)).trans ((up2_ne (by omega)).trans ((up2_ne (by omega)).trans (up2_ne (by omega)))))) 11).trans hs)
    refine X_iload_n (nx := 53) dX5_addNode_52 rfl rfl rfl ?_
    refine X_bipush (v := nI 7) (nx := 55) dX5_addNode_53 rfl rfl ?_
    refine X_icmp_ge (tgt := 79) (nx := 58) dX5_addNode_55 rfl rfl (fun h55 => ?_) (fun h55 => ?_)
    · skip
      refine X_aload_n (nx := 80) dX5_addNode_79 rfl rfl rfl ?_
      refine X_dup (nx := 81) dX5_addNode_80 rfl rfl ?_
      refine X_getI (nx := 84) dX5_addNode_81 rfl fl_RX5_48 rfl (by first | assumption | rfl | (show (_ : Nat) < 92; omega) | decide | omega) (by first | assumption | rfl | (show (_ : Nat) < 92; omega) | decide | omega) ?_
      refine X_top (e81) ?_
      refine X_iconst (v := nI 1) (nx := 85) dX5_addNode_84 rfl rfl ?_
      refine X_iadd (nx := 86) dX5_addNode_85 rfl ?_
      refine X_top (nI_1 _) ?_
      refine X_putI (nx := 89) dX5_addNode_86 rfl fl_RX5_48 rfl rfl (by first | assumption | rfl | (show (_ : Nat) < 92; omega) | decide | omega) (by first | assumption | rfl | (show (_ : Nat) < 92; omega) | decide | omega) ?_
      refine X_iload_n (nx := 90) dX5_addNode_89 rfl rfl rfl ?_
      obtain rfl : i = 7 := (by omega)
      exact X_ret ⟨⟨_, rfl, rfl⟩, dX5_addNode_90⟩ rfl ⟨rfl, rfl⟩
    · exact absurd h55 (fun q => q (nI_le (by omega) (by omega)))
  | succ m ih =>
    intro i hi
    have e81 : adZ (ad5Z D s x) s i 80 11 = nI s := (if_neg (by omega)).trans ((congrFun ((up2_ne (by omega)).trans ((up2_ne (by omega)).trans ((up2_ne (by omega)).trans ((up2_ne (by omega)).trans (up2_ne (by omega)))))) 11).trans hs)
    refine X_iload_n (nx := 53) dX5_addNode_52 rfl rfl rfl ?_
    refine X_bipush (v := nI 7) (nx := 55) dX5_addNode_53 rfl rfl ?_
    refine X_icmp_ge (tgt := 79) (nx := 58) dX5_addNode_55 rfl rfl (fun h55 => ?_) (fun h55 => ?_)
    · exact absurd h55 (nI_ge (by omega) (by omega))
    · skip
      refine X_aload_n (nx := 59) dX5_addNode_58 rfl rfl rfl ?_
      refine X_getP (nx := 62) dX5_addNode_59 rfl fl_RX5_11 rfl (show P 80 0 = some 81 from hP 0) (by first | assumption | rfl | (show (_ : Nat) < 92; omega) | decide | omega) (by first | assumption | rfl | (show (_ : Nat) < 92; omega) | decide | omega) ?_
      refine X_iload_n (nx := 63) dX5_addNode_62 rfl rfl rfl ?_
      refine X_bipush (v := nI 7) (nx := 65) dX5_addNode_63 rfl rfl ?_
      refine X_imul (nx := 66) dX5_addNode_65 rfl ?_
      refine X_top (mul_nI) ?_
      refine X_iload_n (nx := 67) dX5_addNode_66 rfl rfl rfl ?_
      refine X_iadd (nx := 68) dX5_addNode_67 rfl ?_
      refine X_top (nI_add _ _) ?_
      refine X_bipush (v := -9) (nx := 70) dX5_addNode_68 rfl rfl ?_
      refine X_callS (As := [.ref 81, .int (nI (s * 7 + i)), .int (-9)]) (rest := []) (k' := 92) (nx := 73) dX5_addNode_70 rfl ml_RX5_56 kj_X7_put ks_X7_put (sp_put0 (P := P) (by decide) rfl (show s * 7 + i < 301 by omega) (by decide) rfl (by decide)) rfl (by decide) rfl (Nat.le_of_ble_eq_true rfl) (Nat.le_refl _) (Nat.le_refl _) (Or.inl rfl) (fun vs70 σ70 g70 => ?_)
      obtain ⟨e70, f70⟩ := g70
      subst e70; subst f70
      refine X_iinc (nx := 76) dX5_addNode_73 rfl (by decide) rfl (by first | exact ii1 _ | rfl) rfl (st_s (st_s (st_s (st_0)))) ?_
      refine X_goto (tgt := 52) dX5_addNode_76 rfl ?_
      rw [show s * 7 = 7 * s from Nat.mul_comm _ _, adZ_s]
      exact ih (i + 1) (by omega)
theorem sp_addNode0 {P : Ptr} {D : Mem} {s : Nat} {x : Int32} (hP : ∀ i, P 80 i = P0 80 i) (hs : D 80 11 = nI s) (hs2 : s < 43) : E 2 92 j_X5_addNode [.ref 80, .int x] (92, P, D) (fun vs σ' => vs = [.int (nI s)] ∧ σ' = (92, P, up2 (adZ (ad5Z D s x) s 7) 80 11 (nI (s + 1)))) := by
  refine E.start 2 (ls := [some (.ref 80), some (.int x), none, none]) (by decide +kernel) (Nat.le_of_ble_eq_true rfl) rfl (Nat.le_of_ble_eq_true rfl) (by decide) ?_
  refine X_aload_n (nx := 1) dX5_addNode_0 rfl rfl rfl ?_
  refine X_getI (nx := 4) dX5_addNode_1 rfl fl_RX5_48 rfl (by first | assumption | rfl | (show (_ : Nat) < 92; omega) | decide | omega) (by first | assumption | rfl | (show (_ : Nat) < 92; omega) | decide | omega) ?_
  refine X_top (hs) ?_
  refine X_istore_n (i := 2) (nx := 5) dX5_addNode_4 rfl rfl (by decide) rfl (st_s (st_s (st_0))) ?_
  refine X_aload_n (nx := 6) dX5_addNode_5 rfl rfl rfl ?_
  refine X_getP (nx := 9) dX5_addNode_6 rfl fl_RX5_15 rfl (show P 80 1 = some 82 from hP 1) (by first | assumption | rfl | (show (_ : Nat) < 92; omega) | decide | omega) (by first | assumption | rfl | (show (_ : Nat) < 92; omega) | decide | omega) ?_
  refine X_iload_n (nx := 10) dX5_addNode_9 rfl rfl rfl ?_
  refine X_iload_n (nx := 11) dX5_addNode_10 rfl rfl rfl ?_
  refine X_callS (As := [.ref 82, .int (nI s), .int (x)]) (rest := []) (k' := 92) (nx := 14) dX5_addNode_11 rfl ml_RX5_56 kj_X7_put ks_X7_put (sp_put0 (P := P) (by decide) rfl (show s < 43 from hs2) (by decide) rfl (by decide)) rfl (by decide) rfl (Nat.le_of_ble_eq_true rfl) (Nat.le_refl _) (Nat.le_refl _) (Or.inl rfl) (fun vs11 σ11 g11 => ?_)
  obtain ⟨e11, f11⟩ := g11
  subst e11; subst f11
  refine X_aload_n (nx := 15) dX5_addNode_14 rfl rfl rfl ?_
  refine X_getP (nx := 18) dX5_addNode_15 rfl fl_RX5_18 rfl (show P 80 2 = some 83 from hP 2) (by first | assumption | rfl | (show (_ : Nat) < 92; omega) | decide | omega) (by first | assumption | rfl | (show (_ : Nat) < 92; omega) | decide | omega) ?_
  refine X_iload_n (nx := 19) dX5_addNode_18 rfl rfl rfl ?_
  refine X_iconst (v := 0) (nx := 20) dX5_addNode_19 rfl rfl ?_
  refine X_callS (As := [.ref 83, .int (nI s), .int (0)]) (rest := []) (k' := 92) (nx := 23) dX5_addNode_20 rfl ml_RX5_56 kj_X7_put ks_X7_put (sp_put0 (P := P) (by decide) rfl (show s < 43 from hs2) (by decide) rfl (by decide)) rfl (by decide) rfl (Nat.le_of_ble_eq_true rfl) (Nat.le_refl _) (Nat.le_refl _) (Or.inl rfl) (fun vs20 σ20 g20 => ?_)
  obtain ⟨e20, f20⟩ := g20
  subst e20; subst f20
  refine X_aload_n (nx := 24) dX5_addNode_23 rfl rfl rfl ?_
  refine X_getP (nx := 27) dX5_addNode_24 rfl fl_RX5_21 rfl (show P 80 3 = some 84 from hP 3) (by first | assumption | rfl | (show (_ : Nat) < 92; omega) | decide | omega) (by first | assumption | rfl | (show (_ : Nat) < 92; omega) | decide | omega) ?_
  refine X_iload_n (nx := 28) dX5_addNode_27 rfl rfl rfl ?_
  refine X_iconst (v := 0) (nx := 29) dX5_addNode_28 rfl rfl ?_
  refine X_callS (As := [.ref 84, .int (nI s), .int (0)]) (rest := []) (k' := 92) (nx := 32) dX5_addNode_29 rfl ml_RX5_56 kj_X7_put ks_X7_put (sp_put0 (P := P) (by decide) rfl (show s < 43 from hs2) (by decide) rfl (by decide)) rfl (by decide) rfl (Nat.le_of_ble_eq_true rfl) (Nat.le_refl _) (Nat.le_refl _) (Or.inl rfl) (fun vs29 σ29 g29 => ?_)
  obtain ⟨e29, f29⟩ := g29
  subst e29; subst f29
  refine X_aload_n (nx := 33) dX5_addNode_32 rfl rfl rfl ?_
  refine X_getP (nx := 36) dX5_addNode_33 rfl fl_RX5_24 rfl (show P 80 4 = some 85 from hP 4) (by first | assumption | rfl | (show (_ : Nat) < 92; omega) | decide | omega) (by first | assumption | rfl | (show (_ : Nat) < 92; omega) | decide | omega) ?_
  refine X_iload_n (nx := 37) dX5_addNode_36 rfl rfl rfl ?_
  refine X_iconst (v := 0) (nx := 38) dX5_addNode_37 rfl rfl ?_
  refine X_callS (As := [.ref 85, .int (nI s), .int (0)]) (rest := []) (k' := 92) (nx := 41) dX5_addNode_38 rfl ml_RX5_56 kj_X7_put ks_X7_put (sp_put0 (P := P) (by decide) rfl (show s < 43 from hs2) (by decide) rfl (by decide)) rfl (by decide) rfl (Nat.le_of_ble_eq_true rfl) (Nat.le_refl _) (Nat.le_refl _) (Or.inl rfl) (fun vs38 σ38 g38 => ?_)
  obtain ⟨e38, f38⟩ := g38
  subst e38; subst f38
  refine X_aload_n (nx := 42) dX5_addNode_41 rfl rfl rfl ?_
  refine X_getP (nx := 45) dX5_addNode_42 rfl fl_RX5_27 rfl (show P 80 5 = some 86 from hP 5) (by first | assumption | rfl | (show (_ : Nat) < 92; omega) | decide | omega) (by first | assumption | rfl | (show (_ : Nat) < 92; omega) | decide | omega) ?_
  refine X_iload_n (nx := 46) dX5_addNode_45 rfl rfl rfl ?_
  refine X_iconst (v := 0) (nx := 47) dX5_addNode_46 rfl rfl ?_
  refine X_callS (As := [.ref 86, .int (nI s), .int (0)]) (rest := []) (k' := 92) (nx := 50) dX5_addNode_47 rfl ml_RX5_56 kj_X7_put ks_X7_put (sp_put0 (P := P) (by decide) rfl (show s < 43 from hs2) (by decide) rfl (by decide)) rfl (by decide) rfl (Nat.le_of_ble_eq_true rfl) (Nat.le_refl _) (Nat.le_refl _) (Or.inl rfl) (fun vs47 σ47 g47 => ?_)
  obtain ⟨e47, f47⟩ := g47
  subst e47; subst f47
  refine X_iconst (v := nI 0) (nx := 51) dX5_addNode_50 rfl rfl ?_
  refine X_istore_n (i := 3) (nx := 52) dX5_addNode_51 rfl rfl (by decide) rfl (st_s (st_s (st_s (st_0)))) ?_
  have h := lp_addNode0 (x := x) hP hs hs2 7 0 (Nat.zero_add _)
  rw [adZ_0] at h
  exact h
