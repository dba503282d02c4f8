/-! THE REFERENCE: back -/
def gR (v : Nat) : Nat → Nat := gv4 (v % 4) (v / 4 % 4) (v / 16 % 4) (v / 64 % 4)
def rvB (v : Nat) : Nat := v % 4 * 64 + v / 4 % 4 * 16 + v / 16 % 4 * 4 + v / 64 % 4
theorem gR_rv (v : Nat) : gR v = gB (rvB v) := by
  unfold gR gB rvB
  have ha := Nat.mod_lt v (show 4 > 0 by decide)
  have hb := Nat.mod_lt (v / 4) (show 4 > 0 by decide)
  have hc := Nat.mod_lt (v / 16) (show 4 > 0 by decide)
  have hd := Nat.mod_lt (v / 64) (show 4 > 0 by decide)
  generalize v % 4 = a at *
  generalize v / 4 % 4 = b at *
  generalize v / 16 % 4 = c at *
  generalize v / 64 % 4 = d at *
  congr 1 <;> omega
def bkR (S : St) (r v : Nat) : Bool := match pathB (bk S) (gR v) r with
  | none => false
  | some M => decide (ME S (avN (bk S) r) (pnum M) = some r)
theorem bkR_eq {S : St} {r v : Nat} : bkR S r v = bkP S r (rvB v) := by
  unfold bkR bkP
  rw [gR_rv]
  cases pathB (bk S) (gB (rvB v)) r <;> rfl
theorem cn_cP (p : Nat → Bool) : ∀ n, cn p n = (List.range n).countP p := by
  intro n
  induction n with
  | zero => rfl
  | succ n ih =>
    rw [List.range_succ, List.countP_append, ← ih, cn_s, List.countP_cons, List.countP_nil, Nat.zero_add]
theorem rv_perm : ((List.range 256).map rvB).isPerm (List.range 256) = true := by decide +kernel
theorem cn_rv {S : St} {r : Nat} : cn (bkR S r) 256 = cn (bkP S r) 256 := by
  rw [cn_cP, cn_cP, ← (List.isPerm_iff.mp rv_perm).countP_eq (bkP S r), List.countP_map]
  congr 1
  funext v
  exact bkR_eq
theorem two_mul_shift {v k : Nat} (hv : v < 256) (hk : k < 4) : (nI v >>> (nI (2 * k) &&& 31)) &&& 3 = nI (v / 2 ^ (2 * k) % 4) := by
  rw [shr_n (by omega) (by omega), and3 (Nat.lt_of_le_of_lt (Nat.div_le_self _ _) (by omega))]
theorem dX8_back_0 : decode cX8_back 0 = .ok (.aload_n 0, 1) := by decide +kernel
theorem dX8_back_1 : decode cX8_back 1 = .ok (.iload_n 1, 1) := by decide +kernel
theorem dX8_back_2 : decode cX8_back 2 = .ok (.invokevirtual 254, 3) := by decide +kernel
theorem dX8_back_5 : decode cX8_back 5 = .ok (.ifCond .ne 7, 3) := by decide +kernel
theorem dX8_back_8 : decode cX8_back 8 = .ok (.iconst (-1), 1) := by decide +kernel
theorem dX8_back_9 : decode cX8_back 9 = .ok (.goto 17, 3) := by decide +kernel
theorem dX8_back_12 : decode cX8_back 12 = .ok (.aload_n 0, 1) := by decide +kernel
theorem dX8_back_13 : decode cX8_back 13 = .ok (.iload_n 1, 1) := by decide +kernel
theorem dX8_back_14 : decode cX8_back 14 = .ok (.invokevirtual 127, 3) := by decide +kernel
theorem dX8_back_17 : decode cX8_back 17 = .ok (.ifCond .eq 8, 3) := by decide +kernel
theorem dX8_back_20 : decode cX8_back 20 = .ok (.bipush (-3), 2) := by decide +kernel
theorem dX8_back_22 : decode cX8_back 22 = .ok (.goto 4, 3) := by decide +kernel
theorem dX8_back_25 : decode cX8_back 25 = .ok (.iconst 0, 1) := by decide +kernel
theorem dX8_back_26 : decode cX8_back 26 = .ok (.istore_n 2, 1) := by decide +kernel
theorem dX8_back_27 : decode cX8_back 27 = .ok (.iload_n 2, 1) := by decide +kernel
theorem dX8_back_28 : decode cX8_back 28 = .ok (.ifCond .eq 9, 3) := by decide +kernel
theorem dX8_back_31 : decode cX8_back 31 = .ok (.aload_n 0, 1) := by decide +kernel
theorem dX8_back_32 : decode cX8_back 32 = .ok (.iload_n 2, 1) := by decide +kernel
theorem dX8_back_33 : decode cX8_back 33 = .ok (.invokevirtual 211, 3) := by decide +kernel
theorem dX8_back_36 : decode cX8_back 36 = .ok (.ireturn, 1) := by decide +kernel
theorem dX8_back_37 : decode cX8_back 37 = .ok (.iconst 0, 1) := by decide +kernel
theorem dX8_back_38 : decode cX8_back 38 = .ok (.istore_n 3, 1) := by decide +kernel
theorem dX8_back_39 : decode cX8_back 39 = .ok (.iconst 0, 1) := by decide +kernel
theorem dX8_back_40 : decode cX8_back 40 = .ok (.istore 4, 2) := by decide +kernel
theorem dX8_back_42 : decode cX8_back 42 = .ok (.iload 4, 2) := by decide +kernel
theorem dX8_back_44 : decode cX8_back 44 = .ok (.sipush 256, 3) := by decide +kernel
theorem dX8_back_47 : decode cX8_back 47 = .ok (.if_icmp .ge 75, 3) := by decide +kernel
theorem dX8_back_50 : decode cX8_back 50 = .ok (.iconst 0, 1) := by decide +kernel
theorem dX8_back_51 : decode cX8_back 51 = .ok (.istore 5, 2) := by decide +kernel
theorem dX8_back_53 : decode cX8_back 53 = .ok (.iload 5, 2) := by decide +kernel
theorem dX8_back_55 : decode cX8_back 55 = .ok (.iconst 4, 1) := by decide +kernel
theorem dX8_back_56 : decode cX8_back 56 = .ok (.if_icmp .ge 25, 3) := by decide +kernel
theorem dX8_back_59 : decode cX8_back 59 = .ok (.aload_n 0, 1) := by decide +kernel
theorem dX8_back_60 : decode cX8_back 60 = .ok (.getfield 94, 3) := by decide +kernel
theorem dX8_back_63 : decode cX8_back 63 = .ok (.iload 5, 2) := by decide +kernel
theorem dX8_back_65 : decode cX8_back 65 = .ok (.iload 4, 2) := by decide +kernel
theorem dX8_back_67 : decode cX8_back 67 = .ok (.iconst 2, 1) := by decide +kernel
theorem dX8_back_68 : decode cX8_back 68 = .ok (.iload 5, 2) := by decide +kernel
theorem dX8_back_70 : decode cX8_back 70 = .ok (.imul, 1) := by decide +kernel
theorem dX8_back_71 : decode cX8_back 71 = .ok (.ishr, 1) := by decide +kernel
theorem dX8_back_72 : decode cX8_back 72 = .ok (.iconst 3, 1) := by decide +kernel
theorem dX8_back_73 : decode cX8_back 73 = .ok (.iand, 1) := by decide +kernel
theorem dX8_back_74 : decode cX8_back 74 = .ok (.iastore, 1) := by decide +kernel
theorem dX8_back_75 : decode cX8_back 75 = .ok (.iinc 5 1, 3) := by decide +kernel
theorem dX8_back_78 : decode cX8_back 78 = .ok (.goto (-25), 3) := by decide +kernel
theorem dX8_back_81 : decode cX8_back 81 = .ok (.aload_n 0, 1) := by decide +kernel
theorem dX8_back_82 : decode cX8_back 82 = .ok (.iload_n 1, 1) := by decide +kernel
theorem dX8_back_83 : decode cX8_back 83 = .ok (.invokevirtual 360, 3) := by decide +kernel
theorem dX8_back_86 : decode cX8_back 86 = .ok (.istore 5, 2) := by decide +kernel
theorem dX8_back_88 : decode cX8_back 88 = .ok (.iload_n 3, 1) := by decide +kernel
theorem dX8_back_89 : decode cX8_back 89 = .ok (.iload 5, 2) := by decide +kernel
theorem dX8_back_91 : decode cX8_back 91 = .ok (.ifCond .lt 22, 3) := by decide +kernel
theorem dX8_back_94 : decode cX8_back 94 = .ok (.aload_n 0, 1) := by decide +kernel
theorem dX8_back_95 : decode cX8_back 95 = .ok (.iload 5, 2) := by decide +kernel
theorem dX8_back_97 : decode cX8_back 97 = .ok (.aload_n 0, 1) := by decide +kernel
theorem dX8_back_98 : decode cX8_back 98 = .ok (.iload_n 1, 1) := by decide +kernel
theorem dX8_back_99 : decode cX8_back 99 = .ok (.invokevirtual 320, 3) := by decide +kernel
theorem dX8_back_102 : decode cX8_back 102 = .ok (.invokevirtual 314, 3) := by decide +kernel
theorem dX8_back_105 : decode cX8_back 105 = .ok (.iload_n 1, 1) := by decide +kernel
theorem dX8_back_106 : decode cX8_back 106 = .ok (.if_icmp .ne 7, 3) := by decide +kernel
theorem dX8_back_109 : decode cX8_back 109 = .ok (.iconst 1, 1) := by decide +kernel
theorem dX8_back_110 : decode cX8_back 110 = .ok (.goto 4, 3) := by decide +kernel
theorem dX8_back_113 : decode cX8_back 113 = .ok (.iconst 0, 1) := by decide +kernel
theorem dX8_back_114 : decode cX8_back 114 = .ok (.iadd, 1) := by decide +kernel
theorem dX8_back_115 : decode cX8_back 115 = .ok (.istore_n 3, 1) := by decide +kernel
theorem dX8_back_116 : decode cX8_back 116 = .ok (.iinc 4 1, 3) := by decide +kernel
theorem dX8_back_119 : decode cX8_back 119 = .ok (.goto (-77), 3) := by decide +kernel
theorem dX8_back_122 : decode cX8_back 122 = .ok (.iload_n 3, 1) := by decide +kernel
theorem dX8_back_123 : decode cX8_back 123 = .ok (.ireturn, 1) := by decide +kernel
theorem X_fg6b {d k pc : Nat} {j : MI} {a b c e f o : Option Value} {st : List Value} {σ : Wd} {Q : List Value → Wd → Prop} (hX : X d k j pc [a, b, c, e, f, none] st σ Q) : X d k j pc [a, b, c, e, f, o] st σ Q := by
  refine X_forget (fun i v h => ?_) hX
  match i, h with
  | 0, h => exact h
  | 1, h => exact h
  | 2, h => exact h
  | 3, h => exact h
  | 4, h => exact h
  | 5, h => cases h
  | n + 6, h => cases h
theorem lp_X8_back_in {S : St} {D : Mem} {r v : Nat} {z w : Int32} (hv : v < 256) {Q : List Value → Wd → Prop} (hQ : ∀ D2, Fq (fun b _ => b = 133) D D2 → GV2 D2 (gR v) → X 6 138 j_X8_back 81 [some (.ref 104), some (.int (nI r)), some (.int z), some (.int w), some (.int (nI v)), none] [] (138, P0, D2) Q) : ∀ (m : Nat) (k : Nat) (D1 : Mem), k + m = 4 → Fq (fun b _ => b = 133) D D1 → (∀ j, j < k → D1 133 j = nI (v / 2 ^ (2 * j) % 4)) → X 6 138 j_X8_back 53 [some (.ref 104), some (.int (nI r)), some (.int z), some (.int w), some (.int (nI v)), some (.int (nI k))] [] (138, P0, D1) (Q) := by
  intro m
  induction m with
  | zero =>
    intro k D1 hk hq hl
    refine X_iload (nx := 55) dX8_back_53 rfl rfl ?_
    refine X_iconst (v := nI 4) (nx := 56) dX8_back_55 rfl rfl ?_
    refine X_icmp_ge (tgt := 81) (nx := 59) dX8_back_56 rfl rfl (fun h56 => ?_) (fun h56 => ?_)
    · skip
      obtain rfl : k = 4 := (by omega)
      refine X_fg6b ?_
      refine hQ D1 hq (fun j hj => ?_)
      match j, hj with
      | 0, _ => exact ⟨(hl 0 (by omega)).trans (congrArg nI (by show v / 1 % 4 = v % 4; rw [Nat.div_one])), Nat.mod_lt _ (by decide)⟩
      | 1, _ => exact ⟨hl 1 (by omega), Nat.mod_lt _ (by decide)⟩
      | 2, _ => exact ⟨hl 2 (by omega), Nat.mod_lt _ (by decide)⟩
      | 3, _ => exact ⟨hl 3 (by omega), Nat.mod_lt _ (by decide)⟩
    · exact absurd h56 (fun q => q (nI_le (by omega) (by omega)))
  | succ m ih =>
    intro k D1 hk hq hl
    refine X_iload (nx := 55) dX8_back_53 rfl rfl ?_
    refine X_iconst (v := nI 4) (nx := 56) dX8_back_55 rfl rfl ?_
    refine X_icmp_ge (tgt := 81) (nx := 59) dX8_back_56 rfl rfl (fun h56 => ?_) (fun h56 => ?_)
    · exact absurd h56 (nI_ge (by omega) (by omega))
    · skip
      refine X_aload_n (nx := 60) dX8_back_59 rfl rfl rfl ?_
      refine M_getP (nx := 63) dX8_back_60 rfl fl_RX8_94 rfl (by first | assumption | rfl | decide | omega) (by first | assumption | rfl | decide | omega) (by first | assumption | rfl | decide | omega) ?_
      refine X_iload (nx := 65) dX8_back_63 rfl rfl ?_
      refine X_iload (nx := 67) dX8_back_65 rfl rfl ?_
      refine X_iconst (v := nI 2) (nx := 68) dX8_back_67 rfl rfl ?_
      refine X_iload (nx := 70) dX8_back_68 rfl rfl ?_
      refine X_imul (nx := 71) dX8_back_70 rfl ?_
      refine X_top (mul_nI) ?_
      refine X_ishr (nx := 72) dX8_back_71 rfl ?_
      refine X_iconst (v := 3) (nx := 73) dX8_back_72 rfl rfl ?_
      refine X_iand (nx := 74) dX8_back_73 rfl ?_
      refine X_top (two_mul_shift hv (by omega)) ?_
      refine M_st (a := 133) (L := 4) (nx := 75) dX8_back_74 rfl (by decide) (by decide) rfl (by decide) (by omega) ?_
      refine X_iinc (nx := 78) dX8_back_75 rfl (by decide) rfl (by first | exact ii1 _ | rfl) rfl (st_s (st_s (st_s (st_s (st_s (st_0)))))) ?_
      refine X_goto (tgt := 53) dX8_back_78 rfl ?_
      refine ih (k + 1) _ (by omega) (hq.tr (Fq.up rfl)) (fun j hj => ?_)
      by_cases e : j = k
      · subst e; exact up2_same
      · rw [up2_other (by omega)]; exact hl j (by omega)
theorem lp_X8_back {S : St} {D : Mem} {r : Nat} {z : Int32} (hw : WF S) (hr : r < cm_ (bk S)) (hm : mtB (bk S) r = false) : ∀ (m : Nat) (v : Nat) (D1 : Mem), v + m = 256 → INV2 D1 S → Fr inR D D1 → X 6 138 j_X8_back 42 [some (.ref 104), some (.int (nI r)), some (.int z), some (.int (nI (cn (bkR S r) v))), some (.int (nI v)), none] [] (138, P0, D1) (fun x σ => ∃ (u : Int32) (D' : Mem), x = [.int u] ∧ σ = wd D' ∧ CK2 D (nI (cn (bkR S r) 256), S) u D') := by
  intro m
  induction m with
  | zero =>
    intro v D1 hi h hf
    have hr10 : r < 10 := Nat.lt_of_lt_of_le hr hw.1.2.1
    refine X_iload (nx := 44) dX8_back_42 rfl rfl ?_
    refine X_sipush (v := nI 256) (nx := 47) dX8_back_44 rfl rfl ?_
    refine X_icmp_ge (tgt := 122) (nx := 50) dX8_back_47 rfl rfl (fun h47 => ?_) (fun h47 => ?_)
    · skip
      refine X_iload_n (nx := 123) dX8_back_122 rfl rfl rfl ?_
      exact Z_reti dX8_back_123 (Or.inl rfl) (by obtain rfl : v = 256 := (by omega); exact ck2_s rfl h hf)
    · exact absurd h47 (fun q => q (nI_le (by omega) (by omega)))
  | succ m ih =>
    intro v D1 hi h hf
    have hr10 : r < 10 := Nat.lt_of_lt_of_le hr hw.1.2.1
    refine X_iload (nx := 44) dX8_back_42 rfl rfl ?_
    refine X_sipush (v := nI 256) (nx := 47) dX8_back_44 rfl rfl ?_
    refine X_icmp_ge (tgt := 122) (nx := 50) dX8_back_47 rfl rfl (fun h47 => ?_) (fun h47 => ?_)
    · exact absurd h47 (nI_ge (by omega) (by omega))
    · skip
      refine X_iconst (v := nI 0) (nx := 51) dX8_back_50 rfl rfl ?_
      refine X_istore (i := 5) (nx := 53) dX8_back_51 rfl (by decide) rfl (st_s (st_s (st_s (st_s (st_s (st_0)))))) ?_
      refine lp_X8_back_in (S := S) (by omega) (fun D2 q2 g2 => ?_) 4 0 D1 rfl Fq.rf (fun j hj => absurd hj (Nat.not_lt_zero _))
      have hi2 := scr_inv h hw (q2.mono (fun b i q => by unfold SCR; omega))
      refine X_aload_n (nx := 82) dX8_back_81 rfl rfl rfl ?_
      refine X_iload_n (nx := 83) dX8_back_82 rfl rfl rfl ?_
      refine Z_Vi1 (nx := 86) dX8_back_83 rfl ml_RX8_360 kj_X8_pathOf kv_X8_pathOf (sp_X8_pathOf hi2.1.1 hw.1 g2 rfl hr) (by first | assumption | rfl | decide | omega) (by first | assumption | rfl | decide | omega) (by decide) rfl (by first | decide | omega) (by exact Nat.le_of_ble_eq_true rfl) (fun u83 D83 g83 => ?_)
      have hi3 := scr_inv hi2.1 hw (g83.2.2.mono (fun _ _ q => q.scr))
      have hpl := g83.2.1
      refine X_istore (i := 5) (nx := 88) dX8_back_86 rfl (by decide) rfl (st_s (st_s (st_s (st_s (st_s (st_0)))))) ?_
      refine X_iload_n (nx := 89) dX8_back_88 rfl rfl rfl ?_
      refine X_iload (nx := 91) dX8_back_89 rfl rfl ?_
      refine X_if_lt (tgt := 113) (nx := 94) dX8_back_91 rfl rfl (fun h91 => ?_) (fun h91 => ?_)
      · skip
        have hz : bkR S r v = false := by unfold bkR; rw [pb_no g83.1 g83.2.1 h91]
        refine X_iconst (v := 0) (nx := 114) dX8_back_113 rfl rfl ?_
        refine X_iadd (nx := 115) dX8_back_114 rfl ?_
        refine X_top (show _ = nI (cn (bkR S r) (v + 1)) from (by first | exact (cn_1 hz).1 | (rw [Int32.add_zero]; exact congrArg nI (cn_0 hz).1))) ?_
        refine X_istore_n (i := 3) (nx := 116) dX8_back_115 rfl rfl (by decide) rfl (st_s (st_s (st_s (st_0)))) ?_
        refine X_iinc (nx := 119) dX8_back_116 rfl (by decide) rfl (by first | exact ii1 _ | rfl) rfl (st_s (st_s (st_s (st_s (st_0))))) ?_
        refine X_goto (tgt := 42) dX8_back_119 rfl ?_
        refine X_fg6b ?_
        first
        | exact ih (v + 1) _ (by omega) (br_inv hi3.1 hw g102).1 (((hf.tr hi2.2).tr hi3.2).tr (br_inv hi3.1 hw g102).2)
        | exact ih (v + 1) _ (by omega) hi3.1 ((hf.tr hi2.2).tr hi3.2)
      · skip
        obtain ⟨M, hM, hpe⟩ := pb_lt g83.1 h91
        refine X_aload_n (nx := 95) dX8_back_94 rfl rfl rfl ?_
        refine X_iload (nx := 97) dX8_back_95 rfl rfl ?_
        refine X_aload_n (nx := 98) dX8_back_97 rfl rfl rfl ?_
        refine X_iload_n (nx := 99) dX8_back_98 rfl rfl rfl ?_
        refine Y_Vi1 (nx := 102) dX8_back_99 rfl ml_RX8_320 kj_X8_askedFor kv_X8_askedFor (sp_X8_askedFor hi3.1.1 hw.1 rfl hr hm) (by first | assumption | rfl | decide | omega) (by first | assumption | rfl | decide | omega) (by decide) rfl (by first | decide | omega) (by exact Nat.le_of_ble_eq_true rfl) ?_
        refine Z_Vi2 (nx := 105) dX8_back_102 rfl ml_RX8_314 kj_X8_matchOf kv_X8_matchOf (sp_X8_matchOf hi3.1.1 hw.1 hw.1.1 tle hpe (hpl _ hM) rfl (av_lt hw.1 hr hm)) (by first | assumption | rfl | decide | omega) (by first | assumption | rfl | decide | omega) (by decide) rfl (by first | decide | omega) (by exact Nat.le_of_ble_eq_true rfl) (fun u102 D102 g102 => ?_)
        refine X_iload_n (nx := 106) dX8_back_105 rfl rfl rfl ?_
        refine X_icmp_ne (tgt := 113) (nx := 109) dX8_back_106 rfl rfl (fun h106 => ?_) (fun h106 => ?_)
        · skip
          have hz : bkR S r v = false := by unfold bkR; rw [hM]; exact decide_eq_false (fun q => h106 ((mo_is g102 hr10).mpr q))
          refine X_iconst (v := 0) (nx := 114) dX8_back_113 rfl rfl ?_
          refine X_iadd (nx := 115) dX8_back_114 rfl ?_
          refine X_top (show _ = nI (cn (bkR S r) (v + 1)) from (by first | exact (cn_1 hz).1 | (rw [Int32.add_zero]; exact congrArg nI (cn_0 hz).1))) ?_
          refine X_istore_n (i := 3) (nx := 116) dX8_back_115 rfl rfl (by decide) rfl (st_s (st_s (st_s (st_0)))) ?_
          refine X_iinc (nx := 119) dX8_back_116 rfl (by decide) rfl (by first | exact ii1 _ | rfl) rfl (st_s (st_s (st_s (st_s (st_0))))) ?_
          refine X_goto (tgt := 42) dX8_back_119 rfl ?_
          refine X_fg6b ?_
          first
          | exact ih (v + 1) _ (by omega) (br_inv hi3.1 hw g102).1 (((hf.tr hi2.2).tr hi3.2).tr (br_inv hi3.1 hw g102).2)
          | exact ih (v + 1) _ (by omega) hi3.1 ((hf.tr hi2.2).tr hi3.2)
        · skip
          have hz : bkR S r v = true := by unfold bkR; rw [hM]; exact decide_eq_true ((mo_is g102 hr10).mp h106)
          refine X_iconst (v := 1) (nx := 110) dX8_back_109 rfl rfl ?_
          refine X_goto (tgt := 114) dX8_back_110 rfl ?_
          refine X_iadd (nx := 115) dX8_back_114 rfl ?_
          refine X_top (show _ = nI (cn (bkR S r) (v + 1)) from (by first | exact (cn_1 hz).1 | (rw [Int32.add_zero]; exact congrArg nI (cn_0 hz).1))) ?_
          refine X_istore_n (i := 3) (nx := 116) dX8_back_115 rfl rfl (by decide) rfl (st_s (st_s (st_s (st_0)))) ?_
          refine X_iinc (nx := 119) dX8_back_116 rfl (by decide) rfl (by first | exact ii1 _ | rfl) rfl (st_s (st_s (st_s (st_s (st_0))))) ?_
          refine X_goto (tgt := 42) dX8_back_119 rfl ?_
          refine X_fg6b ?_
          first
          | exact ih (v + 1) _ (by omega) (br_inv hi3.1 hw g102).1 (((hf.tr hi2.2).tr hi3.2).tr (br_inv hi3.1 hw g102).2)
          | exact ih (v + 1) _ (by omega) hi3.1 ((hf.tr hi2.2).tr hi3.2)
theorem sp_X8_back {x : Int32} {S : St} {D : Mem} (h : INV2 D S) (hw : WF S) : Rix 6 j_X8_back [.ref 104, .int x] D (fun u D' => CK2 D (m_back S x) u D') := by
  refine E.start 4 (ls := [some (.ref 104), some (.int x), none, none, none, none]) (by decide +kernel) (Nat.le_of_ble_eq_true rfl) rfl (Nat.le_refl _) (Nat.le_refl _) ?_
  have hcm := hw.1.2.1
  have hB2 := h.1.2.1
  refine X_aload_n (nx := 1) dX8_back_0 rfl rfl rfl ?_
  refine X_iload_n (nx := 2) dX8_back_1 rfl rfl rfl ?_
  refine Y_Vi1 (nx := 5) dX8_back_2 rfl ml_RX8_254 kj_X8_isRoute kv_X8_isRoute (sp_X8_isRoute h.1 hw.1) (by first | assumption | rfl | decide | omega) (by first | assumption | rfl | decide | omega) (by decide) rfl (by first | decide | omega) (by exact Nat.le_of_ble_eq_true rfl) ?_
  refine X_top (show _ = b2i (isTh (bk S) x) from rfl) ?_
  refine X_if_ne (tgt := 12) (nx := 8) dX8_back_5 rfl rfl (fun h5 => ?_) (fun h5 => ?_)
  · skip
    have c5 := b2i_t.mp h5
    obtain ⟨r, hr, rfl, tr⟩ := isTh_t hcm c5
    have k5 : (nI r).toNatClampNeg = r := nI_clamp (by omega)
    refine X_aload_n (nx := 13) dX8_back_12 rfl rfl rfl ?_
    refine X_iload_n (nx := 14) dX8_back_13 rfl rfl rfl ?_
    refine Y_Vi1 (nx := 17) dX8_back_14 rfl ml_RX8_127 kj_X8_isMount kv_X8_isMount (sp_X8_isMount h.1 hw.1 rfl hr) (by first | assumption | rfl | decide | omega) (by first | assumption | rfl | decide | omega) (by decide) rfl (by first | decide | omega) (by exact Nat.le_of_ble_eq_true rfl) ?_
    refine X_if_eq (tgt := 25) (nx := 20) dX8_back_17 rfl rfl (fun h17 => ?_) (fun h17 => ?_)
    · skip
      have n17 := nb h17
      refine X_iconst (v := 0) (nx := 26) dX8_back_25 rfl rfl ?_
      refine X_istore_n (i := 2) (nx := 27) dX8_back_26 rfl rfl (by decide) rfl (st_s (st_s (st_0))) ?_
      refine X_iload_n (nx := 28) dX8_back_27 rfl rfl rfl ?_
      refine X_if_eq (tgt := 37) (nx := 31) dX8_back_28 rfl rfl (fun h28 => ?_) (fun h28 => ?_)
      · skip
        refine X_iconst (v := nI 0) (nx := 38) dX8_back_37 rfl rfl ?_
        refine X_istore_n (i := 3) (nx := 39) dX8_back_38 rfl rfl (by decide) rfl (st_s (st_s (st_s (st_0)))) ?_
        refine X_iconst (v := nI 0) (nx := 40) dX8_back_39 rfl rfl ?_
        refine X_istore (i := 4) (nx := 42) dX8_back_40 rfl (by decide) rfl (st_s (st_s (st_s (st_s (st_0))))) ?_
        (unfold m_back; rw [if_pos c5, k5, if_neg n17, ← cn_rv]; exact lp_X8_back hw hr (Bool.eq_false_iff.mpr n17) 256 0 D rfl h Fr.rf)
      · exact absurd h28 (by decide)
    · skip
      have c17 := b2i_t.mp h17
      refine X_bipush (v := -3) (nx := 22) dX8_back_20 rfl rfl ?_
      refine X_goto (tgt := 26) dX8_back_22 rfl ?_
      refine X_istore_n (i := 2) (nx := 27) dX8_back_26 rfl rfl (by decide) rfl (st_s (st_s (st_0))) ?_
      refine X_iload_n (nx := 28) dX8_back_27 rfl rfl rfl ?_
      refine X_if_eq (tgt := 37) (nx := 31) dX8_back_28 rfl rfl (fun h28 => ?_) (fun h28 => ?_)
      · exact absurd h28 (by decide)
      · skip
        refine X_aload_n (nx := 32) dX8_back_31 rfl rfl rfl ?_
        refine X_iload_n (nx := 33) dX8_back_32 rfl rfl rfl ?_
        refine Y_Vi1 (nx := 36) dX8_back_33 rfl ml_RX8_211 kj_X8_no kv_X8_no (by first | exact sp_X8_no (k := 1) rfl (by omega) (by omega) | exact sp_X8_no (k := 3) rfl (by omega) (by omega)) (by first | assumption | rfl | decide | omega) (by first | assumption | rfl | decide | omega) (by decide) rfl (by first | decide | omega) (by exact Nat.le_of_ble_eq_true rfl) ?_
        exact Z_reti dX8_back_36 (Or.inl rfl) (by
          unfold m_back
          first
          | (rw [if_neg n5]; exact ck2_no (k := 1) h Fr.rf (by omega) (by omega))
          | (rw [if_pos c5, k5, if_pos c17]; exact ck2_no (k := 3) h Fr.rf (by omega) (by omega)))
  · skip
    have n5 := nb h5
    refine X_iconst (v := -1) (nx := 9) dX8_back_8 rfl rfl ?_
    refine X_goto (tgt := 26) dX8_back_9 rfl ?_
    refine X_istore_n (i := 2) (nx := 27) dX8_back_26 rfl rfl (by decide) rfl (st_s (st_s (st_0))) ?_
    refine X_iload_n (nx := 28) dX8_back_27 rfl rfl rfl ?_
    refine X_if_eq (tgt := 37) (nx := 31) dX8_back_28 rfl rfl (fun h28 => ?_) (fun h28 => ?_)
    · exact absurd h28 (by decide)
    · skip
      refine X_aload_n (nx := 32) dX8_back_31 rfl rfl rfl ?_
      refine X_iload_n (nx := 33) dX8_back_32 rfl rfl rfl ?_
      refine Y_Vi1 (nx := 36) dX8_back_33 rfl ml_RX8_211 kj_X8_no kv_X8_no (by first | exact sp_X8_no (k := 1) rfl (by omega) (by omega) | exact sp_X8_no (k := 3) rfl (by omega) (by omega)) (by first | assumption | rfl | decide | omega) (by first | assumption | rfl | decide | omega) (by decide) rfl (by first | decide | omega) (by exact Nat.le_of_ble_eq_true rfl) ?_
      exact Z_reti dX8_back_36 (Or.inl rfl) (by
        unfold m_back
        first
        | (rw [if_neg n5]; exact ck2_no (k := 1) h Fr.rf (by omega) (by omega))
        | (rw [if_pos c5, k5, if_pos c17]; exact ck2_no (k := 3) h Fr.rf (by omega) (by omega)))
