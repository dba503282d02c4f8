/-! THE REFERENCE: a statement comes -/
def badG (L : List Nat) (r : Bool) (i : Nat) : Prop := (L.getD i 0 = 40 ∧ (r = false ∨ i + 1 < L.length)) ∨ ((10 ≤ L.getD i 0 ∧ L.getD i 0 < 40) ∧ (3 < L.getD i 0 % 10 ∨ pbP L i (L.getD i 0 % 10) = true))
def okG (L : List Nat) (r : Bool) : Prop := L.length ≤ 4 ∧ ∀ i, i < L.length → ¬ badG L r i
theorem pb_k {s : List Nat} {i : Nat} (h : ¬ (10 ≤ s.getD i 0 ∧ s.getD i 0 < 40)) : mkn (pbP s i) 4 = mkn (pbP s (i + 1)) 4 := by
  refine mkn_congr (fun k _ => ?_)
  show _ = (fst_ (pbQ s k) 0 (i + 1)).isSome
  rw [is_sn, pbQ_f h, Bool.or_false]; rfl
def ASM (L : List Nat) (r : Bool) (D : Mem) (u : Int32) (D' : Mem) : Prop := D' = D ∧ ((u = 1 ∧ okG L r) ∨ (u = 0 ∧ ¬ okG L r))
theorem dX8_areSegments_0 : decode cX8_areSegments 0 = .ok (.iconst 0, 1) := by decide +kernel
theorem dX8_areSegments_1 : decode cX8_areSegments 1 = .ok (.istore 4, 2) := by decide +kernel
theorem dX8_areSegments_3 : decode cX8_areSegments 3 = .ok (.iconst 0, 1) := by decide +kernel
theorem dX8_areSegments_4 : decode cX8_areSegments 4 = .ok (.istore 5, 2) := by decide +kernel
theorem dX8_areSegments_6 : decode cX8_areSegments 6 = .ok (.iload 5, 2) := by decide +kernel
theorem dX8_areSegments_8 : decode cX8_areSegments 8 = .ok (.iload_n 2, 1) := by decide +kernel
theorem dX8_areSegments_9 : decode cX8_areSegments 9 = .ok (.if_icmp .ge 92, 3) := by decide +kernel
theorem dX8_areSegments_12 : decode cX8_areSegments 12 = .ok (.aload_n 0, 1) := by decide +kernel
theorem dX8_areSegments_13 : decode cX8_areSegments 13 = .ok (.getfield 88, 3) := by decide +kernel
theorem dX8_areSegments_16 : decode cX8_areSegments 16 = .ok (.iload_n 1, 1) := by decide +kernel
theorem dX8_areSegments_17 : decode cX8_areSegments 17 = .ok (.iload 5, 2) := by decide +kernel
theorem dX8_areSegments_19 : decode cX8_areSegments 19 = .ok (.iadd, 1) := by decide +kernel
theorem dX8_areSegments_20 : decode cX8_areSegments 20 = .ok (.iaload, 1) := by decide +kernel
theorem dX8_areSegments_21 : decode cX8_areSegments 21 = .ok (.istore 6, 2) := by decide +kernel
theorem dX8_areSegments_23 : decode cX8_areSegments 23 = .ok (.iload 6, 2) := by decide +kernel
theorem dX8_areSegments_25 : decode cX8_areSegments 25 = .ok (.bipush 40, 2) := by decide +kernel
theorem dX8_areSegments_27 : decode cX8_areSegments 27 = .ok (.if_icmp .ne 17, 3) := by decide +kernel
theorem dX8_areSegments_30 : decode cX8_areSegments 30 = .ok (.iload_n 3, 1) := by decide +kernel
theorem dX8_areSegments_31 : decode cX8_areSegments 31 = .ok (.ifCond .eq 11, 3) := by decide +kernel
theorem dX8_areSegments_34 : decode cX8_areSegments 34 = .ok (.iload 5, 2) := by decide +kernel
theorem dX8_areSegments_36 : decode cX8_areSegments 36 = .ok (.iload_n 2, 1) := by decide +kernel
theorem dX8_areSegments_37 : decode cX8_areSegments 37 = .ok (.iconst 1, 1) := by decide +kernel
theorem dX8_areSegments_38 : decode cX8_areSegments 38 = .ok (.isub, 1) := by decide +kernel
theorem dX8_areSegments_39 : decode cX8_areSegments 39 = .ok (.if_icmp .ge 5, 3) := by decide +kernel
theorem dX8_areSegments_42 : decode cX8_areSegments 42 = .ok (.iconst 0, 1) := by decide +kernel
theorem dX8_areSegments_43 : decode cX8_areSegments 43 = .ok (.ireturn, 1) := by decide +kernel
theorem dX8_areSegments_44 : decode cX8_areSegments 44 = .ok (.iload 6, 2) := by decide +kernel
theorem dX8_areSegments_46 : decode cX8_areSegments 46 = .ok (.bipush 10, 2) := by decide +kernel
theorem dX8_areSegments_48 : decode cX8_areSegments 48 = .ok (.bipush 39, 2) := by decide +kernel
theorem dX8_areSegments_50 : decode cX8_areSegments 50 = .ok (.invokestatic 115, 3) := by decide +kernel
theorem dX8_areSegments_53 : decode cX8_areSegments 53 = .ok (.ifCond .ne 6, 3) := by decide +kernel
theorem dX8_areSegments_56 : decode cX8_areSegments 56 = .ok (.goto 39, 3) := by decide +kernel
theorem dX8_areSegments_59 : decode cX8_areSegments 59 = .ok (.iload 6, 2) := by decide +kernel
theorem dX8_areSegments_61 : decode cX8_areSegments 61 = .ok (.bipush 10, 2) := by decide +kernel
theorem dX8_areSegments_63 : decode cX8_areSegments 63 = .ok (.irem, 1) := by decide +kernel
theorem dX8_areSegments_64 : decode cX8_areSegments 64 = .ok (.iconst 3, 1) := by decide +kernel
theorem dX8_areSegments_65 : decode cX8_areSegments 65 = .ok (.if_icmp .gt 16, 3) := by decide +kernel
theorem dX8_areSegments_68 : decode cX8_areSegments 68 = .ok (.iload 4, 2) := by decide +kernel
theorem dX8_areSegments_70 : decode cX8_areSegments 70 = .ok (.iload 6, 2) := by decide +kernel
theorem dX8_areSegments_72 : decode cX8_areSegments 72 = .ok (.bipush 10, 2) := by decide +kernel
theorem dX8_areSegments_74 : decode cX8_areSegments 74 = .ok (.irem, 1) := by decide +kernel
theorem dX8_areSegments_75 : decode cX8_areSegments 75 = .ok (.invokestatic 123, 3) := by decide +kernel
theorem dX8_areSegments_78 : decode cX8_areSegments 78 = .ok (.ifCond .eq 5, 3) := by decide +kernel
theorem dX8_areSegments_81 : decode cX8_areSegments 81 = .ok (.iconst 0, 1) := by decide +kernel
theorem dX8_areSegments_82 : decode cX8_areSegments 82 = .ok (.ireturn, 1) := by decide +kernel
theorem dX8_areSegments_83 : decode cX8_areSegments 83 = .ok (.iload 4, 2) := by decide +kernel
theorem dX8_areSegments_85 : decode cX8_areSegments 85 = .ok (.iconst 1, 1) := by decide +kernel
theorem dX8_areSegments_86 : decode cX8_areSegments 86 = .ok (.iload 6, 2) := by decide +kernel
theorem dX8_areSegments_88 : decode cX8_areSegments 88 = .ok (.bipush 10, 2) := by decide +kernel
theorem dX8_areSegments_90 : decode cX8_areSegments 90 = .ok (.irem, 1) := by decide +kernel
theorem dX8_areSegments_91 : decode cX8_areSegments 91 = .ok (.ishl, 1) := by decide +kernel
theorem dX8_areSegments_92 : decode cX8_areSegments 92 = .ok (.ior, 1) := by decide +kernel
theorem dX8_areSegments_93 : decode cX8_areSegments 93 = .ok (.istore 4, 2) := by decide +kernel
theorem dX8_areSegments_95 : decode cX8_areSegments 95 = .ok (.iinc 5 1, 3) := by decide +kernel
theorem dX8_areSegments_98 : decode cX8_areSegments 98 = .ok (.goto (-92), 3) := by decide +kernel
theorem dX8_areSegments_101 : decode cX8_areSegments 101 = .ok (.iload_n 2, 1) := by decide +kernel
theorem dX8_areSegments_102 : decode cX8_areSegments 102 = .ok (.iconst 4, 1) := by decide +kernel
theorem dX8_areSegments_103 : decode cX8_areSegments 103 = .ok (.if_icmp .gt 7, 3) := by decide +kernel
theorem dX8_areSegments_106 : decode cX8_areSegments 106 = .ok (.iconst 1, 1) := by decide +kernel
theorem dX8_areSegments_107 : decode cX8_areSegments 107 = .ok (.goto 4, 3) := by decide +kernel
theorem dX8_areSegments_110 : decode cX8_areSegments 110 = .ok (.iconst 0, 1) := by decide +kernel
theorem dX8_areSegments_111 : decode cX8_areSegments 111 = .ok (.ireturn, 1) := by decide +kernel
theorem lp_X8_areSegments {L : List Nat} {r : Bool} {n0 : Nat} {D : Mem} (hv : ∀ k, k < L.length → D 131 (n0 + k) = nI (L.getD k 0)) (hn : n0 + L.length ≤ 96) (hb : ∀ k, k < L.length → L.getD k 0 < 1000) : ∀ (m : Nat) (i : Nat) (o : Option Value), i + m = L.length → (∀ k, k < i → ¬ badG L r k) → X 2 138 j_X8_areSegments 6 [some (.ref 104), some (.int (nI n0)), some (.int (nI L.length)), some (.int (b2i r)), some (.int (nI (mkn (pbP L i) 4))), some (.int (nI i)), o] [] (138, P0, D) (fun x σ => ∃ (u : Int32) (D' : Mem), x = [.int u] ∧ σ = wd D' ∧ ASM L r D u D') := by
  intro m
  induction m with
  | zero =>
    intro i o hi hall
    refine X_iload (nx := 8) dX8_areSegments_6 rfl rfl ?_
    refine X_iload_n (nx := 9) dX8_areSegments_8 rfl rfl rfl ?_
    refine X_icmp_ge (tgt := 101) (nx := 12) dX8_areSegments_9 rfl rfl (fun h9 => ?_) (fun h9 => ?_)
    · skip
      refine X_iload_n (nx := 102) dX8_areSegments_101 rfl rfl rfl ?_
      refine X_iconst (v := nI 4) (nx := 103) dX8_areSegments_102 rfl rfl ?_
      refine X_icmp_gt (tgt := 110) (nx := 106) dX8_areSegments_103 rfl rfl (fun h103 => ?_) (fun h103 => ?_)
      · skip
        rw [nI_ltI (by omega) (by omega)] at h103
        refine X_iconst (v := 0) (nx := 111) dX8_areSegments_110 rfl rfl ?_
        exact Z_reti dX8_areSegments_111 (Or.inr ⟨rfl, by first | exact Or.inl rfl | exact Or.inr rfl | exact b2i_01 _ | assumption⟩) ⟨rfl, by first | exact Or.inl ⟨rfl, by omega, fun k hk => hall k (by omega)⟩ | exact Or.inr ⟨rfl, fun q => by have := q.1; omega⟩⟩
      · skip
        rw [nI_ltI (by omega) (by omega)] at h103
        refine X_iconst (v := 1) (nx := 107) dX8_areSegments_106 rfl rfl ?_
        refine X_goto (tgt := 111) dX8_areSegments_107 rfl ?_
        exact Z_reti dX8_areSegments_111 (Or.inr ⟨rfl, by first | exact Or.inl rfl | exact Or.inr rfl | exact b2i_01 _ | assumption⟩) ⟨rfl, by first | exact Or.inl ⟨rfl, by omega, fun k hk => hall k (by omega)⟩ | exact Or.inr ⟨rfl, fun q => by have := q.1; omega⟩⟩
    · exact absurd h9 (fun q => q (nI_le (by omega) (by omega)))
  | succ m ih =>
    intro i o hi hall
    have hbi := hb i (by omega)
    refine X_iload (nx := 8) dX8_areSegments_6 rfl rfl ?_
    refine X_iload_n (nx := 9) dX8_areSegments_8 rfl rfl rfl ?_
    refine X_icmp_ge (tgt := 101) (nx := 12) dX8_areSegments_9 rfl rfl (fun h9 => ?_) (fun h9 => ?_)
    · exact absurd h9 (nI_ge (by omega) (by omega))
    · skip
      refine X_aload_n (nx := 13) dX8_areSegments_12 rfl rfl rfl ?_
      refine M_getP (nx := 16) dX8_areSegments_13 rfl fl_RX8_88 rfl (by first | assumption | rfl | decide | omega) (by first | assumption | rfl | decide | omega) (by first | assumption | rfl | decide | omega) ?_
      refine X_iload_n (nx := 17) dX8_areSegments_16 rfl rfl rfl ?_
      refine X_iload (nx := 19) dX8_areSegments_17 rfl rfl ?_
      refine X_iadd (nx := 20) dX8_areSegments_19 rfl ?_
      refine X_top (nI_add _ _) ?_
      refine M_ld (a := 131) (L := 96) (nx := 21) dX8_areSegments_20 rfl (by decide) (by decide) rfl (by decide) (by omega) (hv i (by omega)) ?_
      refine X_istore (i := 6) (nx := 23) dX8_areSegments_21 rfl (by decide) rfl (st_s (st_s (st_s (st_s (st_s (st_s (st_0))))))) ?_
      refine X_iload (nx := 25) dX8_areSegments_23 rfl rfl ?_
      refine X_bipush (v := nI 40) (nx := 27) dX8_areSegments_25 rfl rfl ?_
      refine X_icmp_ne (tgt := 44) (nx := 30) dX8_areSegments_27 rfl rfl (fun h27 => ?_) (fun h27 => ?_)
      · skip
        rw [nI_eq (by omega) (by omega)] at h27
        refine X_iload (nx := 46) dX8_areSegments_44 rfl rfl ?_
        refine X_bipush (v := 10) (nx := 48) dX8_areSegments_46 rfl rfl ?_
        refine X_bipush (v := 39) (nx := 50) dX8_areSegments_48 rfl rfl ?_
        refine Y_Si3 (nx := 53) dX8_areSegments_50 rfl ml_RX8_115 kj_X8_isIn ks_X8_isIn (sp_X8_isIn) (by first | decide | omega) (by exact Nat.le_of_ble_eq_true rfl) ?_
        refine X_top (congrArg b2i (in39 (by omega))) ?_
        refine X_if_ne (tgt := 59) (nx := 56) dX8_areSegments_53 rfl rfl (fun h53 => ?_) (fun h53 => ?_)
        · skip
          have c53 := b2i_t.mp h53
          refine X_iload (nx := 61) dX8_areSegments_59 rfl rfl ?_
          refine X_bipush (v := nI 10) (nx := 63) dX8_areSegments_61 rfl rfl ?_
          refine X_irem (nx := 64) dX8_areSegments_63 rfl (by decide) ?_
          refine X_top (rem10 (by omega)) ?_
          refine X_iconst (v := nI 3) (nx := 65) dX8_areSegments_64 rfl rfl ?_
          refine X_icmp_gt (tgt := 81) (nx := 68) dX8_areSegments_65 rfl rfl (fun h65 => ?_) (fun h65 => ?_)
          · skip
            rw [nI_ltI (by omega) (by omega)] at h65
            refine X_iconst (v := 0) (nx := 82) dX8_areSegments_81 rfl rfl ?_
            exact Z_reti dX8_areSegments_82 (Or.inr ⟨rfl, by first | exact Or.inl rfl | exact Or.inr rfl | exact b2i_01 _ | assumption⟩) ⟨rfl, Or.inr ⟨rfl, fun q => q.2 i (by omega) (Or.inr ⟨of_decide_eq_true c53, by first | exact Or.inl h65 | exact Or.inr ((Bool.and_eq_true_iff.mp c78).2)⟩)⟩⟩
          · skip
            rw [nI_ltI (by omega) (by omega)] at h65
            refine X_iload (nx := 70) dX8_areSegments_68 rfl rfl ?_
            refine X_iload (nx := 72) dX8_areSegments_70 rfl rfl ?_
            refine X_bipush (v := 10) (nx := 74) dX8_areSegments_72 rfl rfl ?_
            refine X_irem (nx := 75) dX8_areSegments_74 rfl (by decide) ?_
            refine X_top (rem10 (by omega)) ?_
            refine Y_Si2 (nx := 78) dX8_areSegments_75 rfl ml_RX8_123 kj_X8_has ks_X8_has (sp_X8_has rfl (Nat.lt_of_lt_of_le (mkn_lt _ 4) (by decide)) rfl (by omega)) (by first | decide | omega) (by exact Nat.le_of_ble_eq_true rfl) ?_
            refine X_top (congrArg b2i (mkn_tb 4)) ?_
            refine X_if_eq (tgt := 83) (nx := 81) dX8_areSegments_78 rfl rfl (fun h78 => ?_) (fun h78 => ?_)
            · skip
              have n78 := b2i_f.mp h78
              refine X_iload (nx := 85) dX8_areSegments_83 rfl rfl ?_
              have hnb : ¬ badG L r i := (fun q => q.elim (fun q => by first | exact h27 q.1 | (rcases q.2 with w | w; exact absurd (b2i_f.mpr w) h31; omega)) (fun q => q.2.elim (fun w => h65 w) (fun w => by rw [w, decide_eq_true (by omega)] at n78; exact absurd n78 (by decide))))
              have hsv : sgv (L.getD i 0) := (by have := of_decide_eq_true c53; unfold sgv; omega)
              refine X_iconst (v := 1) (nx := 86) dX8_areSegments_85 rfl rfl ?_
              refine X_iload (nx := 88) dX8_areSegments_86 rfl rfl ?_
              refine X_bipush (v := 10) (nx := 90) dX8_areSegments_88 rfl rfl ?_
              refine X_irem (nx := 91) dX8_areSegments_90 rfl (by decide) ?_
              refine X_top (rem10 (by omega)) ?_
              refine X_ishl (nx := 92) dX8_areSegments_91 rfl ?_
              refine X_ior (nx := 93) dX8_areSegments_92 rfl ?_
              refine X_top (pb_y (of_decide_eq_true c53) hsv) ?_
              refine X_istore (i := 4) (nx := 95) dX8_areSegments_93 rfl (by decide) rfl (st_s (st_s (st_s (st_s (st_0))))) ?_
              refine X_iinc (nx := 98) dX8_areSegments_95 rfl (by decide) rfl (by first | exact ii1 _ | rfl) rfl (st_s (st_s (st_s (st_s (st_s (st_0)))))) ?_
              refine X_goto (tgt := 6) dX8_areSegments_98 rfl ?_
              refine ih (i + 1) _ (by omega) (fun k hk => ?_)
              by_cases e : k = i
              · subst e; exact hnb
              · exact hall k (by omega)
            · skip
              have c78 := b2i_t.mp h78
              refine X_iconst (v := 0) (nx := 82) dX8_areSegments_81 rfl rfl ?_
              exact Z_reti dX8_areSegments_82 (Or.inr ⟨rfl, by first | exact Or.inl rfl | exact Or.inr rfl | exact b2i_01 _ | assumption⟩) ⟨rfl, Or.inr ⟨rfl, fun q => q.2 i (by omega) (Or.inr ⟨of_decide_eq_true c53, by first | exact Or.inl h65 | exact Or.inr ((Bool.and_eq_true_iff.mp c78).2)⟩)⟩⟩
        · skip
          have n53 := of_decide_eq_false (b2i_f.mp h53)
          refine X_goto (tgt := 95) dX8_areSegments_56 rfl ?_
          have hnb : ¬ badG L r i := (fun q => q.elim (fun q => by first | exact h27 q.1 | (rcases q.2 with w | w; exact absurd (b2i_f.mpr w) h31; omega)) (fun q => n53 q.1))
          rw [pb_k n53]
          refine X_iinc (nx := 98) dX8_areSegments_95 rfl (by decide) rfl (by first | exact ii1 _ | rfl) rfl (st_s (st_s (st_s (st_s (st_s (st_0)))))) ?_
          refine X_goto (tgt := 6) dX8_areSegments_98 rfl ?_
          refine ih (i + 1) _ (by omega) (fun k hk => ?_)
          by_cases e : k = i
          · subst e; exact hnb
          · exact hall k (by omega)
      · skip
        rw [nI_eq (by omega) (by omega)] at h27
        refine X_iload_n (nx := 31) dX8_areSegments_30 rfl rfl rfl ?_
        refine X_if_eq (tgt := 42) (nx := 34) dX8_areSegments_31 rfl rfl (fun h31 => ?_) (fun h31 => ?_)
        · skip
          refine X_iconst (v := 0) (nx := 43) dX8_areSegments_42 rfl rfl ?_
          exact Z_reti dX8_areSegments_43 (Or.inr ⟨rfl, by first | exact Or.inl rfl | exact Or.inr rfl | exact b2i_01 _ | assumption⟩) ⟨rfl, Or.inr ⟨rfl, fun q => q.2 i (by omega) (Or.inl ⟨h27, by first | exact Or.inl (b2i_f.mp h31) | exact Or.inr (by omega)⟩)⟩⟩
        · skip
          refine X_iload (nx := 36) dX8_areSegments_34 rfl rfl ?_
          refine X_iload_n (nx := 37) dX8_areSegments_36 rfl rfl rfl ?_
          refine X_iconst (v := nI 1) (nx := 38) dX8_areSegments_37 rfl rfl ?_
          refine X_isub (nx := 39) dX8_areSegments_38 rfl ?_
          refine X_top (sub_nI (by omega)) ?_
          refine X_icmp_ge (tgt := 44) (nx := 42) dX8_areSegments_39 rfl rfl (fun h39 => ?_) (fun h39 => ?_)
          · skip
            rw [nI_leI (by omega) (by omega)] at h39
            refine X_iload (nx := 46) dX8_areSegments_44 rfl rfl ?_
            refine X_bipush (v := 10) (nx := 48) dX8_areSegments_46 rfl rfl ?_
            refine X_bipush (v := 39) (nx := 50) dX8_areSegments_48 rfl rfl ?_
            refine Y_Si3 (nx := 53) dX8_areSegments_50 rfl ml_RX8_115 kj_X8_isIn ks_X8_isIn (sp_X8_isIn) (by first | decide | omega) (by exact Nat.le_of_ble_eq_true rfl) ?_
            refine X_top (congrArg b2i (in39 (by omega))) ?_
            refine X_if_ne (tgt := 59) (nx := 56) dX8_areSegments_53 rfl rfl (fun h53 => ?_) (fun h53 => ?_)
            · skip
              have c53 := b2i_t.mp h53
              refine X_iload (nx := 61) dX8_areSegments_59 rfl rfl ?_
              refine X_bipush (v := nI 10) (nx := 63) dX8_areSegments_61 rfl rfl ?_
              refine X_irem (nx := 64) dX8_areSegments_63 rfl (by decide) ?_
              refine X_top (rem10 (by omega)) ?_
              refine X_iconst (v := nI 3) (nx := 65) dX8_areSegments_64 rfl rfl ?_
              refine X_icmp_gt (tgt := 81) (nx := 68) dX8_areSegments_65 rfl rfl (fun h65 => ?_) (fun h65 => ?_)
              · skip
                rw [nI_ltI (by omega) (by omega)] at h65
                refine X_iconst (v := 0) (nx := 82) dX8_areSegments_81 rfl rfl ?_
                exact Z_reti dX8_areSegments_82 (Or.inr ⟨rfl, by first | exact Or.inl rfl | exact Or.inr rfl | exact b2i_01 _ | assumption⟩) ⟨rfl, Or.inr ⟨rfl, fun q => q.2 i (by omega) (Or.inr ⟨of_decide_eq_true c53, by first | exact Or.inl h65 | exact Or.inr ((Bool.and_eq_true_iff.mp c78).2)⟩)⟩⟩
              · skip
                rw [nI_ltI (by omega) (by omega)] at h65
                refine X_iload (nx := 70) dX8_areSegments_68 rfl rfl ?_
                refine X_iload (nx := 72) dX8_areSegments_70 rfl rfl ?_
                refine X_bipush (v := 10) (nx := 74) dX8_areSegments_72 rfl rfl ?_
                refine X_irem (nx := 75) dX8_areSegments_74 rfl (by decide) ?_
                refine X_top (rem10 (by omega)) ?_
                refine Y_Si2 (nx := 78) dX8_areSegments_75 rfl ml_RX8_123 kj_X8_has ks_X8_has (sp_X8_has rfl (Nat.lt_of_lt_of_le (mkn_lt _ 4) (by decide)) rfl (by omega)) (by first | decide | omega) (by exact Nat.le_of_ble_eq_true rfl) ?_
                refine X_top (congrArg b2i (mkn_tb 4)) ?_
                refine X_if_eq (tgt := 83) (nx := 81) dX8_areSegments_78 rfl rfl (fun h78 => ?_) (fun h78 => ?_)
                · skip
                  have n78 := b2i_f.mp h78
                  refine X_iload (nx := 85) dX8_areSegments_83 rfl rfl ?_
                  have hnb : ¬ badG L r i := (fun q => q.elim (fun q => by first | exact h27 q.1 | (rcases q.2 with w | w; exact absurd (b2i_f.mpr w) h31; omega)) (fun q => q.2.elim (fun w => h65 w) (fun w => by rw [w, decide_eq_true (by omega)] at n78; exact absurd n78 (by decide))))
                  have hsv : sgv (L.getD i 0) := (by have := of_decide_eq_true c53; unfold sgv; omega)
                  refine X_iconst (v := 1) (nx := 86) dX8_areSegments_85 rfl rfl ?_
                  refine X_iload (nx := 88) dX8_areSegments_86 rfl rfl ?_
                  refine X_bipush (v := 10) (nx := 90) dX8_areSegments_88 rfl rfl ?_
                  refine X_irem (nx := 91) dX8_areSegments_90 rfl (by decide) ?_
                  refine X_top (rem10 (by omega)) ?_
                  refine X_ishl (nx := 92) dX8_areSegments_91 rfl ?_
                  refine X_ior (nx := 93) dX8_areSegments_92 rfl ?_
                  refine X_top (pb_y (of_decide_eq_true c53) hsv) ?_
                  refine X_istore (i := 4) (nx := 95) dX8_areSegments_93 rfl (by decide) rfl (st_s (st_s (st_s (st_s (st_0))))) ?_
                  refine X_iinc (nx := 98) dX8_areSegments_95 rfl (by decide) rfl (by first | exact ii1 _ | rfl) rfl (st_s (st_s (st_s (st_s (st_s (st_0)))))) ?_
                  refine X_goto (tgt := 6) dX8_areSegments_98 rfl ?_
                  refine ih (i + 1) _ (by omega) (fun k hk => ?_)
                  by_cases e : k = i
                  · subst e; exact hnb
                  · exact hall k (by omega)
                · skip
                  have c78 := b2i_t.mp h78
                  refine X_iconst (v := 0) (nx := 82) dX8_areSegments_81 rfl rfl ?_
                  exact Z_reti dX8_areSegments_82 (Or.inr ⟨rfl, by first | exact Or.inl rfl | exact Or.inr rfl | exact b2i_01 _ | assumption⟩) ⟨rfl, Or.inr ⟨rfl, fun q => q.2 i (by omega) (Or.inr ⟨of_decide_eq_true c53, by first | exact Or.inl h65 | exact Or.inr ((Bool.and_eq_true_iff.mp c78).2)⟩)⟩⟩
            · skip
              have n53 := of_decide_eq_false (b2i_f.mp h53)
              refine X_goto (tgt := 95) dX8_areSegments_56 rfl ?_
              have hnb : ¬ badG L r i := (fun q => q.elim (fun q => by first | exact h27 q.1 | (rcases q.2 with w | w; exact absurd (b2i_f.mpr w) h31; omega)) (fun q => n53 q.1))
              rw [pb_k n53]
              refine X_iinc (nx := 98) dX8_areSegments_95 rfl (by decide) rfl (by first | exact ii1 _ | rfl) rfl (st_s (st_s (st_s (st_s (st_s (st_0)))))) ?_
              refine X_goto (tgt := 6) dX8_areSegments_98 rfl ?_
              refine ih (i + 1) _ (by omega) (fun k hk => ?_)
              by_cases e : k = i
              · subst e; exact hnb
              · exact hall k (by omega)
          · skip
            rw [nI_leI (by omega) (by omega)] at h39
            refine X_iconst (v := 0) (nx := 43) dX8_areSegments_42 rfl rfl ?_
            exact Z_reti dX8_areSegments_43 (Or.inr ⟨rfl, by first | exact Or.inl rfl | exact Or.inr rfl | exact b2i_01 _ | assumption⟩) ⟨rfl, Or.inr ⟨rfl, fun q => q.2 i (by omega) (Or.inl ⟨h27, by first | exact Or.inl (b2i_f.mp h31) | exact Or.inr (by omega)⟩)⟩⟩
theorem sp_X8_areSegments {L : List Nat} {r : Bool} {n0 : Nat} {D : Mem} (hv : ∀ k, k < L.length → D 131 (n0 + k) = nI (L.getD k 0)) (hn : n0 + L.length ≤ 96) (hb : ∀ k, k < L.length → L.getD k 0 < 1000) {x y z : Int32} (hx : x = nI n0) (hy : y = nI L.length) (hz : z = b2i r) : Rix 2 j_X8_areSegments [.ref 104, .int x, .int y, .int z] D (fun u D' => ASM L r D u D') := by
  refine E.start 3 (ls := [some (.ref 104), some (.int x), some (.int y), some (.int z), none, none, none]) (by decide +kernel) (Nat.le_of_ble_eq_true rfl) rfl (Nat.le_refl _) (Nat.le_refl _) ?_
  subst hx; subst hy; subst hz
  have e0 : (0 : Int32) = nI (mkn (pbP L 0) 4) := by rw [show mkn (pbP L 0) 4 = 0 from rfl]; rfl
  refine X_iconst (v := 0) (nx := 1) dX8_areSegments_0 rfl rfl ?_
  refine X_top (e0) ?_
  refine X_istore (i := 4) (nx := 3) dX8_areSegments_1 rfl (by decide) rfl (st_s (st_s (st_s (st_s (st_0))))) ?_
  refine X_iconst (v := nI 0) (nx := 4) dX8_areSegments_3 rfl rfl ?_
  refine X_istore (i := 5) (nx := 6) dX8_areSegments_4 rfl (by decide) rfl (st_s (st_s (st_s (st_s (st_s (st_0)))))) ?_
  exact lp_X8_areSegments hv hn hb L.length 0 none (Nat.zero_add _) (fun k hk => absurd hk (Nat.not_lt_zero _))
theorem take_gd {L : List Nat} {j k : Nat} (h : j < k) : (L.take k).getD j 0 = L.getD j 0 := by
  rw [List.getD_eq_getElem?_getD, List.getElem?_take_of_lt h, List.getD_eq_getElem?_getD]
theorem pl_of_all {s : List Nat} (h : ∀ k, k < s.length → s.getD k 0 ≠ 40) : pl s = s.length := by
  refine List.length_filter_eq_length_iff.mpr (fun x hx => decide_eq_true ?_)
  obtain ⟨i, hi, e⟩ := List.getElem_of_mem hx
  have h2 := h i hi
  rw [List.getD_eq_getElem?_getD, List.getElem?_eq_getElem hi, e] at h2
  exact h2
def okE (s : List Nat) (v : Nat) : Prop := (10 ≤ v ∧ v < 40 → v % 10 < 4 ∧ plOf s (v % 10) 0 (pl s) = none) ∧ (s.length < 4 ∧ pl s = s.length)
def AE (s vs : List Nat) : Prop := ∀ k, k < vs.length → okE (s ++ vs.take k) (vs.getD k 0)
theorem AE_cons {s vs : List Nat} {v : Nat} : AE s (v :: vs) ↔ okE s v ∧ AE (s ++ [v]) vs := by
  constructor
  · intro h
    refine ⟨?_, fun k hk => ?_⟩
    · have := h 0 (Nat.succ_pos _)
      rw [List.take_zero, List.append_nil] at this
      exact this
    · have := h (k + 1) (Nat.succ_lt_succ hk)
      rw [List.take_succ_cons] at this
      rw [List.append_assoc]
      exact this
  · rintro ⟨h1, h2⟩ k hk
    cases k with
    | zero => rw [List.take_zero, List.append_nil]; exact h1
    | succ k =>
      have := h2 k (Nat.lt_of_succ_lt_succ hk)
      rw [List.append_assoc] at this
      rw [List.take_succ_cons]
      exact this
theorem sgT_b {t : List Nat} {i : Nat} (h : sfm t i) : (nam (t.getD (i + 1) 0) = true ∧ 10 ≤ sgT t i ∧ sgT t i < 40 ∧ sgT t i % 10 = t.getD (i + 2) 0 - 48) ∨ (nam (t.getD (i + 1) 0) = false ∧ (sgT t i < 4 ∨ sgT t i = 40)) := by
  obtain ⟨h0, h⟩ := h
  rcases h with ⟨h1, h2, h3⟩ | ⟨h1, h2⟩
  · refine Or.inl ⟨h1, ?_⟩
    have hd := dig_b h3
    unfold sgT
    rcases nam_c.mp h1 with e | e | e
    · rw [sgo_n (b := 10) (Or.inl ⟨e, rfl⟩)]; omega
    · rw [sgo_n (b := 20) (Or.inr (Or.inl ⟨e, rfl⟩))]; omega
    · rw [sgo_n (b := 30) (Or.inr (Or.inr ⟨e, rfl⟩))]; omega
  · refine Or.inr ⟨h1, ?_⟩
    unfold sgT
    rcases h2 with e | e
    · rw [e]; exact Or.inr rfl
    · rw [sgo_l e.1]; exact Or.inl (by omega)
theorem sgT_le {t : List Nat} {i : Nat} (h : sfm t i) : sgT t i ≤ 40 := by rcases sgT_b h with q | q <;> omega
theorem okq_E {t s : List Nat} {i : Nat} (h : sfm t i) : okq t i s = true ↔ okE s (sgT t i) := by
  unfold okE
  rcases sgT_b h with ⟨h1, h2, h3, h4⟩ | ⟨h1, h2⟩
  · rw [okq_n h1, h4]
    exact ⟨fun q => ⟨fun _ => q.1, q.2⟩, fun q => ⟨q.1 ⟨h2, h3⟩, q.2⟩⟩
  · rw [okq_u h1]
    exact ⟨fun q => ⟨fun w => by omega, q⟩, fun q => q.2⟩
theorem rsg_E {t : List Nat} : ∀ m i s, (∀ k, i ≤ k → k < i + m → t.getD k 0 = 47 → sfm t k) → (rsg t i m s = some (s ++ sl t i m) ∧ AE s (sl t i m)) ∨ (rsg t i m s = none ∧ ¬ AE s (sl t i m)) := by
  intro m
  induction m with
  | zero => intro i s _; exact Or.inl ⟨by rw [rsg, sl, List.append_nil], fun k hk => absurd hk (Nat.not_lt_zero _)⟩
  | succ m ih =>
    intro i s h
    have h' : ∀ k, i + 1 ≤ k → k < i + 1 + m → t.getD k 0 = 47 → sfm t k := fun k a b c => h k (by omega) (by omega) c
    by_cases e : t.getD i 0 = 47
    · have hs := h i (Nat.le_refl _) (by omega) e
      rw [rsg, if_pos e, sl, if_pos e, AE_cons]
      by_cases ho : okq t i s = true
      · rw [if_pos ho]
        rcases ih (i + 1) (s ++ [sgT t i]) h' with ⟨a, b⟩ | ⟨a, b⟩
        · refine Or.inl ⟨a.trans (by rw [List.append_assoc]; rfl), (okq_E hs).mp ho, b⟩
        · exact Or.inr ⟨a, fun q => b q.2⟩
      · rw [if_neg ho]
        exact Or.inr ⟨rfl, fun q => ho ((okq_E hs).mpr q.1)⟩
    · rw [rsg, if_neg e, sl, if_neg e]
      exact ih (i + 1) s h'
theorem sl_all {t : List Nat} {p : Nat → Prop} : ∀ m i, (∀ k, i ≤ k → k < i + m → t.getD k 0 = 47 → p (sgT t k)) → ∀ j, j < (sl t i m).length → p ((sl t i m).getD j 0) := by
  intro m
  induction m with
  | zero => intro i _ j hj; exact absurd hj (Nat.not_lt_zero _)
  | succ m ih =>
    intro i h j hj
    have h' := ih (i + 1) (fun k a b c => h k (by omega) (by omega) c)
    rw [sl] at hj ⊢
    by_cases e : t.getD i 0 = 47
    · rw [if_pos e] at hj ⊢
      cases j with
      | zero => exact h i (Nat.le_refl _) (by omega) e
      | succ j => exact h' j (Nat.lt_of_succ_lt_succ hj)
    · rw [if_neg e] at hj ⊢
      exact h' j hj
theorem pbP_f {L : List Nat} {k d : Nat} : pbP L k d = false ↔ ∀ j, j < k → ¬ ((10 ≤ L.getD j 0 ∧ L.getD j 0 < 40) ∧ L.getD j 0 % 10 = d) := by
  unfold pbP
  constructor
  · intro h j hj q
    cases hf : fst_ (pbQ L d) 0 k with
    | some z => rw [hf] at h; cases h
    | none =>
      have := fst_none hf j (Nat.zero_le _) (by omega)
      rw [pbQ_t q.1 q.2] at this
      cases this
  · intro h
    rw [fst_intro_none (p := pbQ L d) (fun x _ hx => ?_)]
    · rfl
    · by_cases a : 10 ≤ L.getD x 0 ∧ L.getD x 0 < 40
      · exact pbQ_o (fun b => h x (by omega) ⟨a, b⟩)
      · exact pbQ_f a
theorem plOf_f {s : List Nat} {d n : Nat} : plOf s d 0 n = none ↔ ∀ j, j < n → ¬ (10 ≤ s.getD j 0 ∧ s.getD j 0 % 10 = d) := by
  unfold plOf
  constructor
  · intro h j hj q
    have := fst_none h j (Nat.zero_le _) (by omega)
    rw [decide_eq_true q.1, decide_eq_true q.2] at this
    cases this
  · intro h
    refine fst_intro_none (fun x _ hx => ?_)
    by_cases a : 10 ≤ s.getD x 0
    · rw [decide_eq_false (fun b => h x (by omega) ⟨a, b⟩), Bool.and_false]
    · rw [decide_eq_false a, Bool.false_and]
theorem AE_ok {L : List Nat} (hb : ∀ k, k < L.length → L.getD k 0 ≤ 40) : AE [] L ↔ okG L true := by
  have tl : ∀ k, k ≤ L.length → (L.take k).length = k := fun k hk => by rw [List.length_take]; omega
  constructor
  · intro h
    have n40 : ∀ k j, k < L.length → j < k → L.getD j 0 ≠ 40 := fun k j hk hj => by
      have := (h k hk).2.2
      rw [List.nil_append] at this
      have h2 := pl_all this j (by rw [tl k (by omega)]; exact hj)
      rwa [take_gd hj] at h2
    have h4 : L.length ≤ 4 := by
      by_cases q : L.length ≤ 4
      · exact q
      · have := (h 4 (by omega)).2.1
        rw [List.nil_append, tl 4 (by omega)] at this
        omega
    refine ⟨h4, fun i hi q => ?_⟩
    rcases q with ⟨q1, q2⟩ | ⟨q1, q2⟩
    · rcases q2 with q2 | q2
      · cases q2
      · exact n40 (i + 1) i q2 (Nat.lt_succ_self _) q1
    · have hi1 := (h i hi).1 q1
      have hi2 := (h i hi).2.2
      rw [List.nil_append] at hi1 hi2
      rcases q2 with q2 | q2
      · omega
      · have hp := plOf_f.mp hi1.2
        have : pbP L i (L.getD i 0 % 10) = false := pbP_f.mpr (fun j hj w => hp j (by rw [hi2, tl i (by omega)]; exact hj) (by rw [take_gd hj]; exact ⟨w.1.1, w.2⟩))
        rw [this] at q2; cases q2
  · rintro ⟨h1, h2⟩ k hk
    have n40 : ∀ j, j < k → L.getD j 0 ≠ 40 := fun j hj e => h2 j (by omega) (Or.inl ⟨e, Or.inr (by omega)⟩)
    have hpl : pl (L.take k) = k := (pl_of_all (fun j hj => by rw [tl k (by omega)] at hj; rw [take_gd hj]; exact n40 j hj)).trans (tl k (by omega))
    rw [List.nil_append]
    refine ⟨fun q => ?_, by rw [tl k (by omega)]; omega, by rw [hpl, tl k (by omega)]⟩
    have hk2 := h2 k hk
    have a1 : ¬ 3 < L.getD k 0 % 10 := fun w => hk2 (Or.inr ⟨q, Or.inl w⟩)
    have a2 : pbP L k (L.getD k 0 % 10) = false := Bool.eq_false_iff.mpr (fun w => hk2 (Or.inr ⟨q, Or.inr w⟩))
    refine ⟨by omega, plOf_f.mpr (fun j hj w => ?_)⟩
    rw [hpl] at hj
    rw [take_gd hj] at w
    have b1 := hb j (by omega)
    have b2 := n40 j hj
    exact pbP_f.mp a2 j hj ⟨⟨w.1, by omega⟩, w.2⟩
theorem okG_m {L : List Nat} : okG L false ↔ okG L true ∧ pl L = L.length := by
  constructor
  · rintro ⟨h1, h2⟩
    refine ⟨⟨h1, fun i hi q => h2 i hi (q.elim (fun w => Or.inl ⟨w.1, Or.inl rfl⟩) Or.inr)⟩, pl_of_all (fun k hk e => h2 k hk (Or.inl ⟨e, Or.inl rfl⟩))⟩
  · rintro ⟨⟨h1, h2⟩, h3⟩
    exact ⟨h1, fun i hi q => q.elim (fun w => pl_all h3 i hi w.1) (fun w => h2 i hi (Or.inr w))⟩
theorem okG_VS {L : List Nat} (h : okG L true) (hb : ∀ k, k < L.length → L.getD k 0 < 4 ∨ (10 ≤ L.getD k 0 ∧ L.getD k 0 ≤ 40)) : VS L ∧ PDs L := by
  obtain ⟨h1, h2⟩ := h
  have hs : ∀ k, k < L.length → sgv (L.getD k 0) := fun k hk => by
    have a := hb k hk
    have b : 10 ≤ L.getD k 0 ∧ L.getD k 0 < 40 → ¬ 3 < L.getD k 0 % 10 := fun q w => h2 k hk (Or.inr ⟨q, Or.inl w⟩)
    unfold sgv; omega
  refine ⟨⟨h1, fun x hx => ?_, fun k hk e => h2 k (by omega) (Or.inl ⟨e, Or.inr hk⟩)⟩, fun j k hjk hk a b c d e => ?_⟩
  · obtain ⟨i, hi, e⟩ := List.getElem_of_mem hx
    have h3 := hs i hi
    rw [List.getD_eq_getElem?_getD, List.getElem?_eq_getElem hi, e] at h3
    exact h3
  · have a2 : pbP L k (L.getD k 0 % 10) = false := Bool.eq_false_iff.mpr (fun w => h2 k hk (Or.inr ⟨⟨c, d⟩, Or.inr w⟩))
    exact pbP_f.mp a2 j hjk ⟨⟨a, b⟩, e⟩
theorem ar_none {t : List Nat} {st cl : Nat} {B : Bk} {r : Bool} (hr : r = decide (t.getD st 0 = 114)) (hc : t.getD st 0 = 114 ∨ t.getD st 0 = 109) (hcl : st + 3 ≤ cl) (hs : ∀ k, st + 3 ≤ k → k < cl → t.getD k 0 = 47 → sfm t k) (h : ¬ ((dg_ t (st + 1) < 3 ∧ cm_ B < 10) ∧ okG (sl t (st + 3) (cl - (st + 3))) r)) : arS t st cl B = none := by
  unfold arS
  have hs' : ∀ k, st + 3 ≤ k → k < st + 3 + (cl - (st + 3)) → t.getD k 0 = 47 → sfm t k := fun k a b => hs k a (by omega)
  have hb := sl_all (p := fun v => v ≤ 40) _ _ (fun k a b c => sgT_le (hs' k a b c))
  by_cases h1 : dg_ t (st + 1) < 3 ∧ cm_ B < 10
  · rw [if_pos h1]
    rcases rsg_E (cl - (st + 3)) (st + 3) [] hs' with ⟨e, ae⟩ | ⟨e, _⟩
    · rw [e]
      have hok := (AE_ok hb).mp ae
      have hno : ¬ okG (sl t (st + 3) (cl - (st + 3))) r := fun q => h ⟨h1, q⟩
      rcases hc with c | c
      · rw [hr, decide_eq_true c] at hno; exact absurd hok hno
      · rw [hr, decide_eq_false (by omega)] at hno
        have hpl : ¬ pl (sl t (st + 3) (cl - (st + 3))) = (sl t (st + 3) (cl - (st + 3))).length := fun q => hno (okG_m.mpr ⟨hok, q⟩)
        have := pl_le (sl t (st + 3) (cl - (st + 3)))
        show (if t.getD st 0 = 109 then (if pl ([] ++ sl t (st + 3) (cl - (st + 3))) < ([] ++ sl t (st + 3) (cl - (st + 3))).length then none else _) else _) = none
        rw [if_pos c, List.nil_append, if_pos (by omega)]
    · rw [e]
  · rw [if_neg h1]
theorem ar_some {t : List Nat} {st cl : Nat} {B : Bk} {r : Bool} (hr : r = decide (t.getD st 0 = 114)) (hc : t.getD st 0 = 114 ∨ t.getD st 0 = 109) (hcl : st + 3 ≤ cl) (hs : ∀ k, st + 3 ≤ k → k < cl → t.getD k 0 = 47 → sfm t k) (h1 : dg_ t (st + 1) < 3 ∧ cm_ B < 10) (h2 : okG (sl t (st + 3) (cl - (st + 3))) r) : arS t st cl B = some (if t.getD st 0 = 109 then addB B (dg_ t (st + 1)) (-9) (nI (dg_ t (st + 2))) (sl t (st + 3) (cl - (st + 3))) else addB B (dg_ t (st + 1)) (nI (dg_ t (st + 2))) (-9) (sl t (st + 3) (cl - (st + 3)))) ∧ VS (sl t (st + 3) (cl - (st + 3))) ∧ PDs (sl t (st + 3) (cl - (st + 3))) ∧ (r = false → pl (sl t (st + 3) (cl - (st + 3))) = (sl t (st + 3) (cl - (st + 3))).length) := by
  have hs' : ∀ k, st + 3 ≤ k → k < st + 3 + (cl - (st + 3)) → t.getD k 0 = 47 → sfm t k := fun k a b => hs k a (by omega)
  have hb := sl_all (p := fun v => v ≤ 40) _ _ (fun k a b c => sgT_le (hs' k a b c))
  have hb2 := sl_all (p := fun v => v < 4 ∨ (10 ≤ v ∧ v ≤ 40)) _ _ (fun k a b c => by rcases sgT_b (hs' k a b c) with q | q <;> omega)
  have hok : okG (sl t (st + 3) (cl - (st + 3))) true := by
    cases r with
    | true => exact h2
    | false => exact (okG_m.mp h2).1
  have hv := okG_VS hok hb2
  refine ⟨?_, hv.1, hv.2, fun q => by subst q; exact (okG_m.mp h2).2⟩
  unfold arS
  rw [if_pos h1]
  rcases rsg_E (cl - (st + 3)) (st + 3) [] hs' with ⟨e, ae⟩ | ⟨e, ae⟩
  · rw [e, List.nil_append]
    rcases hc with c | c
    · rw [if_neg (by omega)]
      show (if t.getD st 0 = 109 then _ else _) = _
      rw [if_neg (by omega)]
    · rw [if_pos c]
      show (if t.getD st 0 = 109 then (if _ then none else _) else _) = _
      have hf : r = false := by rw [hr]; exact decide_eq_false (by omega)
      subst hf
      rw [if_pos c, if_neg (by rw [(okG_m.mp h2).2]; exact Nat.lt_irrefl _)]
  · exact absurd ((AE_ok hb).mpr hok) ae
/-- what a told statement leaves -/
def OBR (D D' : Mem) (u : Int32) (o : Option Bk) : Prop := Fq BKS D D' ∧ match o with
  | none => u = 0
  | some B => u = 1 ∧ RB D' B (th_ B) (kd_ B) (fg_ B) ∧ VB B ∧ PDB B
theorem OBR.no {D : Mem} {o : Option Bk} (h : o = none) : OBR D D 0 o := by subst h; exact ⟨Fq.rf, rfl⟩
theorem OBR.yes {D D' : Mem} {o : Option Bk} {B : Bk} (h : o = some B) (hf : Fq BKS D D') (hb : RB D' B (th_ B) (kd_ B) (fg_ B)) (hv : VB B) (hp : PDB B) : OBR D D' 1 o := by subst h; exact ⟨hf, rfl, hb, hv, hp⟩
theorem OBR.b {D D' : Mem} {u : Int32} {o : Option Bk} (h : OBR D D' u o) : u = 0 ∨ u = 1 := by
  cases o with
  | none => exact Or.inl h.2
  | some B => exact Or.inr h.2.1
theorem rb_add2 {D D2 : Mem} {B : Bk} {T : Nat → Bool} {K F : Nat → Nat} {R : Nat} {v m : Int32} {s : List Nat} (hV : VB B) (h : RB D B T K F) (hq : Fq (fun b i => b = 113 ∧ 4 * cm_ B ≤ i) (imD D (cm_ B) (nI R) v m (nI s.length)) D2) (hs : ∀ k, k < s.length → D2 113 (4 * cm_ B + k) = nI (s.getD k 0)) : RB D2 (addB B R v m s) (fun i => if i = cm_ B then true else T i) K F := by
  let E : Mem := fun b i => if b = 113 then D2 113 i else D b i
  have e113 : ∀ i, E 113 i = D2 113 i := fun i => if_pos rfl
  have eo : ∀ b, b ≠ 113 → E b = D b := fun b hb => funext fun i => if_neg hb
  have hE : Fq (fun b i => b = 113 ∧ 4 * cm_ B ≤ i) D E := by
    intro b i hb
    by_cases e : b = 113
    · subst e
      rw [e113, hq 113 i (by omega), imD_fq 113 i (by omega)]
    · rw [eo b e]
  have hb := rb_add (R := R) (v := v) (m := m) (s := s) (rb_seg hV h hE) (fun k hk => (e113 _).trans (hs k hk))
  have e2 : D2 = imD E (cm_ B) (nI R) v m (nI s.length) := by
    funext b i
    by_cases e : b = 113
    · subst e
      rw [imD_fq 113 i (by omega), e113]
    · rw [hq b i (by omega)]
      unfold imD
      have eb : E b i = D b i := by rw [eo b e]
      simp only [up2, eb]
  rw [e2]; exact hb
theorem tt_thN {B : Bk} (hV : VB B) {a : Nat} (ha : a < 1000) : isTT B (th_ B) (nI a) = thN B a := by
  have hc := hV.2.1
  unfold isTT thN
  rw [decI (by omega) (by omega), show (nI a).toNatClampNeg = a by rw [Int32.toNatClampNeg, nI_toInt (by omega)]; rfl]
theorem dX8_comesKind_0 : decode cX8_comesKind 0 = .ok (.iload_n 1, 1) := by decide +kernel
theorem dX8_comesKind_1 : decode cX8_comesKind 1 = .ok (.invokestatic 240, 3) := by decide +kernel
theorem dX8_comesKind_4 : decode cX8_comesKind 4 = .ok (.ifCond .eq 9, 3) := by decide +kernel
theorem dX8_comesKind_7 : decode cX8_comesKind 7 = .ok (.iload_n 2, 1) := by decide +kernel
theorem dX8_comesKind_8 : decode cX8_comesKind 8 = .ok (.bipush 6, 2) := by decide +kernel
theorem dX8_comesKind_10 : decode cX8_comesKind 10 = .ok (.if_icmp .lt 5, 3) := by decide +kernel
theorem dX8_comesKind_13 : decode cX8_comesKind 13 = .ok (.iconst 0, 1) := by decide +kernel
theorem dX8_comesKind_14 : decode cX8_comesKind 14 = .ok (.ireturn, 1) := by decide +kernel
theorem dX8_comesKind_15 : decode cX8_comesKind 15 = .ok (.aload_n 0, 1) := by decide +kernel
theorem dX8_comesKind_16 : decode cX8_comesKind 16 = .ok (.getfield 13, 3) := by decide +kernel
theorem dX8_comesKind_19 : decode cX8_comesKind 19 = .ok (.iload_n 1, 1) := by decide +kernel
theorem dX8_comesKind_20 : decode cX8_comesKind 20 = .ok (.iload_n 2, 1) := by decide +kernel
theorem dX8_comesKind_21 : decode cX8_comesKind 21 = .ok (.iastore, 1) := by decide +kernel
theorem dX8_comesKind_22 : decode cX8_comesKind 22 = .ok (.aload_n 0, 1) := by decide +kernel
theorem dX8_comesKind_23 : decode cX8_comesKind 23 = .ok (.getfield 16, 3) := by decide +kernel
theorem dX8_comesKind_26 : decode cX8_comesKind 26 = .ok (.iload_n 1, 1) := by decide +kernel
theorem dX8_comesKind_27 : decode cX8_comesKind 27 = .ok (.iload_n 3, 1) := by decide +kernel
theorem dX8_comesKind_28 : decode cX8_comesKind 28 = .ok (.iastore, 1) := by decide +kernel
theorem dX8_comesKind_29 : decode cX8_comesKind 29 = .ok (.iconst 1, 1) := by decide +kernel
theorem dX8_comesKind_30 : decode cX8_comesKind 30 = .ok (.ireturn, 1) := by decide +kernel
theorem sp_X8_comesKind {B : Bk} {D : Mem} (h : RB D B (th_ B) (kd_ B) (fg_ B)) (hV : VB B) (hP : PDB B) {a k f : Nat} {x y z : Int32} (hx : x = nI a) (hy : y = nI k) (hz : z = nI f) (ha : a < 1000) (hk : k < 1000) (hf : f ≤ 9) : Rix 3 j_X8_comesKind [.ref 104, .int x, .int y, .int z] D (fun u D' => OBR D D' u (if a < 3 ∧ k < 6 then some (setK B a k f) else none)) := by
  refine E.start 0 (ls := [some (.ref 104), some (.int x), some (.int y), some (.int z)]) (by decide +kernel) (Nat.le_of_ble_eq_true rfl) rfl (Nat.le_refl _) (Nat.le_refl _) ?_
  subst hx; subst hy; subst hz
  refine X_iload_n (nx := 1) dX8_comesKind_0 rfl rfl rfl ?_
  refine Y_Si1 (nx := 4) dX8_comesKind_1 rfl ml_RX8_240 kj_X8_isRouter ks_X8_isRouter (sp_X8_isRouter) (by first | decide | omega) (by exact Nat.le_of_ble_eq_true rfl) ?_
  refine X_top (congrArg b2i (dI3 (by omega))) ?_
  refine X_if_eq (tgt := 13) (nx := 7) dX8_comesKind_4 rfl rfl (fun h4 => ?_) (fun h4 => ?_)
  · skip
    have n4 := nb h4
    refine X_iconst (v := 0) (nx := 14) dX8_comesKind_13 rfl rfl ?_
    exact Z_reti dX8_comesKind_14 (Or.inr ⟨rfl, by first | exact Or.inl rfl | exact Or.inr rfl | exact b2i_01 _ | assumption⟩) (OBR.no (by first | exact if_neg (fun q => n4 (decide_eq_true q.1)) | exact if_neg (fun q => h10 q.2)))
  · skip
    have c4 := of_decide_eq_true (b2i_t.mp h4)
    refine X_iload_n (nx := 8) dX8_comesKind_7 rfl rfl rfl ?_
    refine X_bipush (v := nI 6) (nx := 10) dX8_comesKind_8 rfl rfl ?_
    refine X_icmp_lt (tgt := 15) (nx := 13) dX8_comesKind_10 rfl rfl (fun h10 => ?_) (fun h10 => ?_)
    · skip
      rw [nI_ltI (by omega) (by omega)] at h10
      refine X_aload_n (nx := 16) dX8_comesKind_15 rfl rfl rfl ?_
      refine M_getP (nx := 19) dX8_comesKind_16 rfl fl_RX8_13 rfl (by first | assumption | rfl | decide | omega) (by first | assumption | rfl | decide | omega) (by first | assumption | rfl | decide | omega) ?_
      refine X_iload_n (nx := 20) dX8_comesKind_19 rfl rfl rfl ?_
      refine X_iload_n (nx := 21) dX8_comesKind_20 rfl rfl rfl ?_
      refine M_st (a := 106) (L := 3) (nx := 22) dX8_comesKind_21 rfl (by decide) (by decide) rfl (by decide) (by omega) ?_
      refine X_aload_n (nx := 23) dX8_comesKind_22 rfl rfl rfl ?_
      refine M_getP (nx := 26) dX8_comesKind_23 rfl fl_RX8_16 rfl (by first | assumption | rfl | decide | omega) (by first | assumption | rfl | decide | omega) (by first | assumption | rfl | decide | omega) ?_
      refine X_iload_n (nx := 27) dX8_comesKind_26 rfl rfl rfl ?_
      refine X_iload_n (nx := 28) dX8_comesKind_27 rfl rfl rfl ?_
      refine M_st (a := 107) (L := 3) (nx := 29) dX8_comesKind_28 rfl (by decide) (by decide) rfl (by decide) (by omega) ?_
      refine X_iconst (v := 1) (nx := 30) dX8_comesKind_29 rfl rfl ?_
      exact Z_reti dX8_comesKind_30 (Or.inr ⟨rfl, by first | exact Or.inl rfl | exact Or.inr rfl | exact b2i_01 _ | assumption⟩) (OBR.yes (if_pos ⟨c4, h10⟩) ((Fq.up (by unfold BKS; omega)).tr (Fq.up (by unfold BKS; omega))) (rb_F (rb_K h)) (VB_K hV (by omega) hf) hP)
    · skip
      rw [nI_ltI (by omega) (by omega)] at h10
      refine X_iconst (v := 0) (nx := 14) dX8_comesKind_13 rfl rfl ?_
      exact Z_reti dX8_comesKind_14 (Or.inr ⟨rfl, by first | exact Or.inl rfl | exact Or.inr rfl | exact b2i_01 _ | assumption⟩) (OBR.no (by first | exact if_neg (fun q => n4 (decide_eq_true q.1)) | exact if_neg (fun q => h10 q.2)))
theorem dX8_comesDrop_0 : decode cX8_comesDrop 0 = .ok (.aload_n 0, 1) := by decide +kernel
theorem dX8_comesDrop_1 : decode cX8_comesDrop 1 = .ok (.iload_n 1, 1) := by decide +kernel
theorem dX8_comesDrop_2 : decode cX8_comesDrop 2 = .ok (.invokevirtual 254, 3) := by decide +kernel
theorem dX8_comesDrop_5 : decode cX8_comesDrop 5 = .ok (.ifCond .ne 5, 3) := by decide +kernel
theorem dX8_comesDrop_8 : decode cX8_comesDrop 8 = .ok (.iconst 0, 1) := by decide +kernel
theorem dX8_comesDrop_9 : decode cX8_comesDrop 9 = .ok (.ireturn, 1) := by decide +kernel
theorem dX8_comesDrop_10 : decode cX8_comesDrop 10 = .ok (.aload_n 0, 1) := by decide +kernel
theorem dX8_comesDrop_11 : decode cX8_comesDrop 11 = .ok (.getfield 19, 3) := by decide +kernel
theorem dX8_comesDrop_14 : decode cX8_comesDrop 14 = .ok (.iload_n 1, 1) := by decide +kernel
theorem dX8_comesDrop_15 : decode cX8_comesDrop 15 = .ok (.iconst 0, 1) := by decide +kernel
theorem dX8_comesDrop_16 : decode cX8_comesDrop 16 = .ok (.iastore, 1) := by decide +kernel
theorem dX8_comesDrop_17 : decode cX8_comesDrop 17 = .ok (.iconst 1, 1) := by decide +kernel
theorem dX8_comesDrop_18 : decode cX8_comesDrop 18 = .ok (.ireturn, 1) := by decide +kernel
theorem sp_X8_comesDrop {B : Bk} {D : Mem} (h : RB D B (th_ B) (kd_ B) (fg_ B)) (hV : VB B) (hP : PDB B) {a : Nat} {x : Int32} (hx : x = nI a) (ha : a < 1000) : Rix 3 j_X8_comesDrop [.ref 104, .int x] D (fun u D' => OBR D D' u (if thN B a = true then some (setT B a) else none)) := by
  refine E.start 0 (ls := [some (.ref 104), some (.int x)]) (by decide +kernel) (Nat.le_of_ble_eq_true rfl) rfl (Nat.le_refl _) (Nat.le_refl _) ?_
  subst hx
  have hcm := hV.2.1
  refine X_aload_n (nx := 1) dX8_comesDrop_0 rfl rfl rfl ?_
  refine X_iload_n (nx := 2) dX8_comesDrop_1 rfl rfl rfl ?_
  refine Y_Vi1 (nx := 5) dX8_comesDrop_2 rfl ml_RX8_254 kj_X8_isRoute kv_X8_isRoute (sp_X8_isRoute h hV) (by first | assumption | rfl | decide | omega) (by first | assumption | rfl | decide | omega) (by decide) rfl (by first | decide | omega) (by exact Nat.le_of_ble_eq_true rfl) ?_
  refine X_top (congrArg b2i (tt_thN hV ha)) ?_
  refine X_if_ne (tgt := 10) (nx := 8) dX8_comesDrop_5 rfl rfl (fun h5 => ?_) (fun h5 => ?_)
  · skip
    have c5 := b2i_t.mp h5
    have hac : a < cm_ B := of_decide_eq_true (Bool.and_eq_true_iff.mp c5).1
    refine X_aload_n (nx := 11) dX8_comesDrop_10 rfl rfl rfl ?_
    refine M_getP (nx := 14) dX8_comesDrop_11 rfl fl_RX8_19 rfl (by first | assumption | rfl | decide | omega) (by first | assumption | rfl | decide | omega) (by first | assumption | rfl | decide | omega) ?_
    refine X_iload_n (nx := 15) dX8_comesDrop_14 rfl rfl rfl ?_
    refine X_iconst (v := 0) (nx := 16) dX8_comesDrop_15 rfl rfl ?_
    refine M_st (a := 108) (L := 10) (nx := 17) dX8_comesDrop_16 rfl (by decide) (by decide) rfl (by decide) (by omega) ?_
    refine X_iconst (v := 1) (nx := 18) dX8_comesDrop_17 rfl rfl ?_
    exact Z_reti dX8_comesDrop_18 (Or.inr ⟨rfl, by first | exact Or.inl rfl | exact Or.inr rfl | exact b2i_01 _ | assumption⟩) (OBR.yes (if_pos c5) (Fq.up (by unfold BKS; omega)) (rb_T (b := false) h) (VB_T hV) hP)
  · skip
    have n5 := nb h5
    refine X_iconst (v := 0) (nx := 9) dX8_comesDrop_8 rfl rfl ?_
    exact Z_reti dX8_comesDrop_9 (Or.inr ⟨rfl, by first | exact Or.inl rfl | exact Or.inr rfl | exact b2i_01 _ | assumption⟩) (OBR.no (if_neg n5))
theorem dX8_comesRoute_0 : decode cX8_comesRoute 0 = .ok (.aload_n 0, 1) := by decide +kernel
theorem dX8_comesRoute_1 : decode cX8_comesRoute 1 = .ok (.getfield 73, 3) := by decide +kernel
theorem dX8_comesRoute_4 : decode cX8_comesRoute 4 = .ok (.iload_n 1, 1) := by decide +kernel
theorem dX8_comesRoute_5 : decode cX8_comesRoute 5 = .ok (.iaload, 1) := by decide +kernel
theorem dX8_comesRoute_6 : decode cX8_comesRoute 6 = .ok (.bipush 114, 2) := by decide +kernel
theorem dX8_comesRoute_8 : decode cX8_comesRoute 8 = .ok (.if_icmp .ne 7, 3) := by decide +kernel
theorem dX8_comesRoute_11 : decode cX8_comesRoute 11 = .ok (.iconst 1, 1) := by decide +kernel
theorem dX8_comesRoute_12 : decode cX8_comesRoute 12 = .ok (.goto 4, 3) := by decide +kernel
theorem dX8_comesRoute_15 : decode cX8_comesRoute 15 = .ok (.iconst 0, 1) := by decide +kernel
theorem dX8_comesRoute_16 : decode cX8_comesRoute 16 = .ok (.istore 4, 2) := by decide +kernel
theorem dX8_comesRoute_18 : decode cX8_comesRoute 18 = .ok (.aload_n 0, 1) := by decide +kernel
theorem dX8_comesRoute_19 : decode cX8_comesRoute 19 = .ok (.getfield 85, 3) := by decide +kernel
theorem dX8_comesRoute_22 : decode cX8_comesRoute 22 = .ok (.iload_n 1, 1) := by decide +kernel
theorem dX8_comesRoute_23 : decode cX8_comesRoute 23 = .ok (.iaload, 1) := by decide +kernel
theorem dX8_comesRoute_24 : decode cX8_comesRoute 24 = .ok (.istore 5, 2) := by decide +kernel
theorem dX8_comesRoute_26 : decode cX8_comesRoute 26 = .ok (.iload_n 2, 1) := by decide +kernel
theorem dX8_comesRoute_27 : decode cX8_comesRoute 27 = .ok (.invokestatic 240, 3) := by decide +kernel
theorem dX8_comesRoute_30 : decode cX8_comesRoute 30 = .ok (.ifCond .eq 34, 3) := by decide +kernel
theorem dX8_comesRoute_33 : decode cX8_comesRoute 33 = .ok (.iload 4, 2) := by decide +kernel
theorem dX8_comesRoute_35 : decode cX8_comesRoute 35 = .ok (.ifCond .eq 13, 3) := by decide +kernel
theorem dX8_comesRoute_38 : decode cX8_comesRoute 38 = .ok (.iload_n 3, 1) := by decide +kernel
theorem dX8_comesRoute_39 : decode cX8_comesRoute 39 = .ok (.invokestatic 243, 3) := by decide +kernel
theorem dX8_comesRoute_42 : decode cX8_comesRoute 42 = .ok (.ifCond .eq 22, 3) := by decide +kernel
theorem dX8_comesRoute_45 : decode cX8_comesRoute 45 = .ok (.goto 15, 3) := by decide +kernel
theorem dX8_comesRoute_48 : decode cX8_comesRoute 48 = .ok (.iload_n 3, 1) := by decide +kernel
theorem dX8_comesRoute_49 : decode cX8_comesRoute 49 = .ok (.invokestatic 240, 3) := by decide +kernel
theorem dX8_comesRoute_52 : decode cX8_comesRoute 52 = .ok (.ifCond .eq 12, 3) := by decide +kernel
theorem dX8_comesRoute_55 : decode cX8_comesRoute 55 = .ok (.iload_n 3, 1) := by decide +kernel
theorem dX8_comesRoute_56 : decode cX8_comesRoute 56 = .ok (.iload_n 2, 1) := by decide +kernel
theorem dX8_comesRoute_57 : decode cX8_comesRoute 57 = .ok (.if_icmp .le 7, 3) := by decide +kernel
theorem dX8_comesRoute_60 : decode cX8_comesRoute 60 = .ok (.iconst 1, 1) := by decide +kernel
theorem dX8_comesRoute_61 : decode cX8_comesRoute 61 = .ok (.goto 4, 3) := by decide +kernel
theorem dX8_comesRoute_64 : decode cX8_comesRoute 64 = .ok (.iconst 0, 1) := by decide +kernel
theorem dX8_comesRoute_65 : decode cX8_comesRoute 65 = .ok (.istore 6, 2) := by decide +kernel
theorem dX8_comesRoute_67 : decode cX8_comesRoute 67 = .ok (.iload 6, 2) := by decide +kernel
theorem dX8_comesRoute_69 : decode cX8_comesRoute 69 = .ok (.ifCond .eq 29, 3) := by decide +kernel
theorem dX8_comesRoute_72 : decode cX8_comesRoute 72 = .ok (.aload_n 0, 1) := by decide +kernel
theorem dX8_comesRoute_73 : decode cX8_comesRoute 73 = .ok (.aload_n 0, 1) := by decide +kernel
theorem dX8_comesRoute_74 : decode cX8_comesRoute 74 = .ok (.getfield 82, 3) := by decide +kernel
theorem dX8_comesRoute_77 : decode cX8_comesRoute 77 = .ok (.iload_n 1, 1) := by decide +kernel
theorem dX8_comesRoute_78 : decode cX8_comesRoute 78 = .ok (.iaload, 1) := by decide +kernel
theorem dX8_comesRoute_79 : decode cX8_comesRoute 79 = .ok (.iload 5, 2) := by decide +kernel
theorem dX8_comesRoute_81 : decode cX8_comesRoute 81 = .ok (.iload 4, 2) := by decide +kernel
theorem dX8_comesRoute_83 : decode cX8_comesRoute 83 = .ok (.invokevirtual 246, 3) := by decide +kernel
theorem dX8_comesRoute_86 : decode cX8_comesRoute 86 = .ok (.ifCond .eq 12, 3) := by decide +kernel
theorem dX8_comesRoute_89 : decode cX8_comesRoute 89 = .ok (.aload_n 0, 1) := by decide +kernel
theorem dX8_comesRoute_90 : decode cX8_comesRoute 90 = .ok (.getfield 109, 3) := by decide +kernel
theorem dX8_comesRoute_93 : decode cX8_comesRoute 93 = .ok (.bipush 10, 2) := by decide +kernel
theorem dX8_comesRoute_95 : decode cX8_comesRoute 95 = .ok (.if_icmp .ne 5, 3) := by decide +kernel
theorem dX8_comesRoute_98 : decode cX8_comesRoute 98 = .ok (.iconst 0, 1) := by decide +kernel
theorem dX8_comesRoute_99 : decode cX8_comesRoute 99 = .ok (.ireturn, 1) := by decide +kernel
theorem dX8_comesRoute_100 : decode cX8_comesRoute 100 = .ok (.aload_n 0, 1) := by decide +kernel
theorem dX8_comesRoute_101 : decode cX8_comesRoute 101 = .ok (.iload_n 2, 1) := by decide +kernel
theorem dX8_comesRoute_102 : decode cX8_comesRoute 102 = .ok (.iload 4, 2) := by decide +kernel
theorem dX8_comesRoute_104 : decode cX8_comesRoute 104 = .ok (.ifCond .eq 7, 3) := by decide +kernel
theorem dX8_comesRoute_107 : decode cX8_comesRoute 107 = .ok (.iload_n 3, 1) := by decide +kernel
theorem dX8_comesRoute_108 : decode cX8_comesRoute 108 = .ok (.goto 5, 3) := by decide +kernel
theorem dX8_comesRoute_111 : decode cX8_comesRoute 111 = .ok (.bipush (-9), 2) := by decide +kernel
theorem dX8_comesRoute_113 : decode cX8_comesRoute 113 = .ok (.iload 4, 2) := by decide +kernel
theorem dX8_comesRoute_115 : decode cX8_comesRoute 115 = .ok (.ifCond .eq 8, 3) := by decide +kernel
theorem dX8_comesRoute_118 : decode cX8_comesRoute 118 = .ok (.bipush (-9), 2) := by decide +kernel
theorem dX8_comesRoute_120 : decode cX8_comesRoute 120 = .ok (.goto 4, 3) := by decide +kernel
theorem dX8_comesRoute_123 : decode cX8_comesRoute 123 = .ok (.iload_n 3, 1) := by decide +kernel
theorem dX8_comesRoute_124 : decode cX8_comesRoute 124 = .ok (.iload 5, 2) := by decide +kernel
theorem dX8_comesRoute_126 : decode cX8_comesRoute 126 = .ok (.invokevirtual 250, 3) := by decide +kernel
theorem dX8_comesRoute_129 : decode cX8_comesRoute 129 = .ok (.iconst 0, 1) := by decide +kernel
theorem dX8_comesRoute_130 : decode cX8_comesRoute 130 = .ok (.istore 7, 2) := by decide +kernel
theorem dX8_comesRoute_132 : decode cX8_comesRoute 132 = .ok (.iload 7, 2) := by decide +kernel
theorem dX8_comesRoute_134 : decode cX8_comesRoute 134 = .ok (.iload 5, 2) := by decide +kernel
theorem dX8_comesRoute_136 : decode cX8_comesRoute 136 = .ok (.if_icmp .ge 39, 3) := by decide +kernel
theorem dX8_comesRoute_139 : decode cX8_comesRoute 139 = .ok (.aload_n 0, 1) := by decide +kernel
theorem dX8_comesRoute_140 : decode cX8_comesRoute 140 = .ok (.getfield 34, 3) := by decide +kernel
theorem dX8_comesRoute_143 : decode cX8_comesRoute 143 = .ok (.iconst 4, 1) := by decide +kernel
theorem dX8_comesRoute_144 : decode cX8_comesRoute 144 = .ok (.aload_n 0, 1) := by decide +kernel
theorem dX8_comesRoute_145 : decode cX8_comesRoute 145 = .ok (.getfield 109, 3) := by decide +kernel
theorem dX8_comesRoute_148 : decode cX8_comesRoute 148 = .ok (.iconst 1, 1) := by decide +kernel
theorem dX8_comesRoute_149 : decode cX8_comesRoute 149 = .ok (.isub, 1) := by decide +kernel
theorem dX8_comesRoute_150 : decode cX8_comesRoute 150 = .ok (.imul, 1) := by decide +kernel
theorem dX8_comesRoute_151 : decode cX8_comesRoute 151 = .ok (.iload 7, 2) := by decide +kernel
theorem dX8_comesRoute_153 : decode cX8_comesRoute 153 = .ok (.iadd, 1) := by decide +kernel
theorem dX8_comesRoute_154 : decode cX8_comesRoute 154 = .ok (.aload_n 0, 1) := by decide +kernel
theorem dX8_comesRoute_155 : decode cX8_comesRoute 155 = .ok (.getfield 88, 3) := by decide +kernel
theorem dX8_comesRoute_158 : decode cX8_comesRoute 158 = .ok (.aload_n 0, 1) := by decide +kernel
theorem dX8_comesRoute_159 : decode cX8_comesRoute 159 = .ok (.getfield 82, 3) := by decide +kernel
theorem dX8_comesRoute_162 : decode cX8_comesRoute 162 = .ok (.iload_n 1, 1) := by decide +kernel
theorem dX8_comesRoute_163 : decode cX8_comesRoute 163 = .ok (.iaload, 1) := by decide +kernel
theorem dX8_comesRoute_164 : decode cX8_comesRoute 164 = .ok (.iload 7, 2) := by decide +kernel
theorem dX8_comesRoute_166 : decode cX8_comesRoute 166 = .ok (.iadd, 1) := by decide +kernel
theorem dX8_comesRoute_167 : decode cX8_comesRoute 167 = .ok (.iaload, 1) := by decide +kernel
theorem dX8_comesRoute_168 : decode cX8_comesRoute 168 = .ok (.iastore, 1) := by decide +kernel
theorem dX8_comesRoute_169 : decode cX8_comesRoute 169 = .ok (.iinc 7 1, 3) := by decide +kernel
theorem dX8_comesRoute_172 : decode cX8_comesRoute 172 = .ok (.goto (-40), 3) := by decide +kernel
theorem dX8_comesRoute_175 : decode cX8_comesRoute 175 = .ok (.iconst 1, 1) := by decide +kernel
theorem dX8_comesRoute_176 : decode cX8_comesRoute 176 = .ok (.ireturn, 1) := by decide +kernel
theorem lp_X8_comesRoute {t : List Nat} {s st cl N n0 R d2 : Nat} {v w y4 y6 : Int32} {B : Bk} {D : Mem} (h : RB D B (th_ B) (kd_ B) (fg_ B)) (hV : VB B) (hP : PDB B) (hs33 : s < 33) (hN : N ≤ 96) (hcm : cm_ B < 10) (h129 : D 129 s = nI n0) (hn : n0 + (sl t (st + 3) (cl - (st + 3))).length ≤ N) (hl4 : (sl t (st + 3) (cl - (st + 3))).length ≤ 4) (hv : ∀ k, k < (sl t (st + 3) (cl - (st + 3))).length → D 131 (n0 + k) = nI ((sl t (st + 3) (cl - (st + 3))).getD k 0)) {o : Option Bk} (ho : o = some (addB B R v w (sl t (st + 3) (cl - (st + 3))))) (hVa : VB (addB B R v w (sl t (st + 3) (cl - (st + 3))))) (hPa : PDB (addB B R v w (sl t (st + 3) (cl - (st + 3))))) : ∀ (m : Nat) (j : Nat) (D1 : Mem), j + m = (sl t (st + 3) (cl - (st + 3))).length → Fq (fun b i => b = 113 ∧ 4 * cm_ B ≤ i) (imD D (cm_ B) (nI R) v w (nI (sl t (st + 3) (cl - (st + 3))).length)) D1 → (∀ k, k < j → D1 113 (4 * cm_ B + k) = nI ((sl t (st + 3) (cl - (st + 3))).getD k 0)) → X 3 138 j_X8_comesRoute 132 [some (.ref 104), some (.int (nI s)), some (.int (nI R)), some (.int (nI d2)), some (.int y4), some (.int (nI (sl t (st + 3) (cl - (st + 3))).length)), some (.int y6), some (.int (nI j))] [] (138, P0, D1) (fun x σ => ∃ (u : Int32) (D' : Mem), x = [.int u] ∧ σ = wd D' ∧ OBR D D' u o) := by
  intro m
  induction m with
  | zero =>
    intro j D1 hi hq hw
    refine X_iload (nx := 134) dX8_comesRoute_132 rfl rfl ?_
    refine X_iload (nx := 136) dX8_comesRoute_134 rfl rfl ?_
    refine X_icmp_ge (tgt := 175) (nx := 139) dX8_comesRoute_136 rfl rfl (fun h136 => ?_) (fun h136 => ?_)
    · skip
      refine X_iconst (v := 1) (nx := 176) dX8_comesRoute_175 rfl rfl ?_
      exact Z_reti dX8_comesRoute_176 (Or.inr ⟨rfl, by first | exact Or.inl rfl | exact Or.inr rfl | exact b2i_01 _ | assumption⟩) (OBR.yes ho ((imD_fq.mono (fun b i q => by unfold BKS; omega)).tr (hq.mono (fun b i q => by unfold BKS; omega))) (rb_add2 hV h hq (fun k hk => hw k (by omega))) hVa hPa)
    · exact absurd h136 (fun q => q (nI_le (by omega) (by omega)))
  | succ m ih =>
    intro j D1 hi hq hw
    refine X_iload (nx := 134) dX8_comesRoute_132 rfl rfl ?_
    refine X_iload (nx := 136) dX8_comesRoute_134 rfl rfl ?_
    refine X_icmp_ge (tgt := 175) (nx := 139) dX8_comesRoute_136 rfl rfl (fun h136 => ?_) (fun h136 => ?_)
    · exact absurd h136 (nI_ge (by omega) (by omega))
    · skip
      refine X_aload_n (nx := 140) dX8_comesRoute_139 rfl rfl rfl ?_
      refine M_getP (nx := 143) dX8_comesRoute_140 rfl fl_RX8_34 rfl (by first | assumption | rfl | decide | omega) (by first | assumption | rfl | decide | omega) (by first | assumption | rfl | decide | omega) ?_
      refine X_iconst (v := nI 4) (nx := 144) dX8_comesRoute_143 rfl rfl ?_
      refine X_aload_n (nx := 145) dX8_comesRoute_144 rfl rfl rfl ?_
      refine M_getI (nx := 148) dX8_comesRoute_145 rfl fl_RX8_109 rfl (by first | assumption | rfl | decide | omega) (by first | assumption | rfl | decide | omega) ?_
      refine X_top ((hq 104 9 (by omega)).trans (show _ = nI (cm_ B + 1) from up2_same)) ?_
      refine X_iconst (v := nI 1) (nx := 149) dX8_comesRoute_148 rfl rfl ?_
      refine X_isub (nx := 150) dX8_comesRoute_149 rfl ?_
      refine X_top (show _ = nI (cm_ B) from (sub_nI (by omega)).trans (congrArg nI (by omega))) ?_
      refine X_imul (nx := 151) dX8_comesRoute_150 rfl ?_
      refine X_top (mul_nI) ?_
      refine X_iload (nx := 153) dX8_comesRoute_151 rfl rfl ?_
      refine X_iadd (nx := 154) dX8_comesRoute_153 rfl ?_
      refine X_top (nI_add _ _) ?_
      refine X_aload_n (nx := 155) dX8_comesRoute_154 rfl rfl rfl ?_
      refine M_getP (nx := 158) dX8_comesRoute_155 rfl fl_RX8_88 rfl (by first | assumption | rfl | decide | omega) (by first | assumption | rfl | decide | omega) (by first | assumption | rfl | decide | omega) ?_
      refine X_aload_n (nx := 159) dX8_comesRoute_158 rfl rfl rfl ?_
      refine M_getP (nx := 162) dX8_comesRoute_159 rfl fl_RX8_82 rfl (by first | assumption | rfl | decide | omega) (by first | assumption | rfl | decide | omega) (by first | assumption | rfl | decide | omega) ?_
      refine X_iload_n (nx := 163) dX8_comesRoute_162 rfl rfl rfl ?_
      refine M_ld (a := 129) (L := 33) (nx := 164) dX8_comesRoute_163 rfl (by decide) (by decide) rfl (by decide) (by omega) ((hq 129 s (by omega)).trans ((imD_fq 129 s (by omega)).trans h129)) ?_
      refine X_iload (nx := 166) dX8_comesRoute_164 rfl rfl ?_
      refine X_iadd (nx := 167) dX8_comesRoute_166 rfl ?_
      refine X_top (nI_add _ _) ?_
      refine M_ld (a := 131) (L := 96) (nx := 168) dX8_comesRoute_167 rfl (by decide) (by decide) rfl (by decide) (by omega) ((hq 131 _ (by omega)).trans ((imD_fq 131 _ (by omega)).trans (hv j (by omega)))) ?_
      refine M_st (a := 113) (L := 40) (nx := 169) dX8_comesRoute_168 rfl (by decide) (by decide) rfl (by decide) (by omega) ?_
      refine X_iinc (nx := 172) dX8_comesRoute_169 rfl (by decide) rfl (by first | exact ii1 _ | rfl) rfl (st_s (st_s (st_s (st_s (st_s (st_s (st_s (st_0)))))))) ?_
      refine X_goto (tgt := 132) dX8_comesRoute_172 rfl ?_
      refine ih (j + 1) _ (by omega) (hq.tr (Fq.up ⟨rfl, by omega⟩)) (fun k hk => ?_)
      by_cases e : k = j
      · subst e; exact up2_same
      · rw [up2_other (by omega)]; exact hw k (by omega)
theorem ob_r0 {t : List Nat} {st cl : Nat} {B : Bk} (hc : t.getD st 0 = 114) (h : ¬ dg_ t (st + 2) < 4) : obS t st cl B = none := by unfold obS; rw [if_pos hc, if_neg h]
theorem ob_r1 {t : List Nat} {st cl : Nat} {B : Bk} (hc : t.getD st 0 = 114) (h : arS t st cl B = none) : obS t st cl B = none := by unfold obS; rw [if_pos hc, h]; exact ite_self _
theorem ob_r2 {t : List Nat} {st cl : Nat} {B B' : Bk} (hc : t.getD st 0 = 114) (h2 : dg_ t (st + 2) < 4) (h : arS t st cl B = some B') : obS t st cl B = some B' := by unfold obS; rw [if_pos hc, if_pos h2, h]
theorem ob_m0 {t : List Nat} {st cl : Nat} {B : Bk} (hc : t.getD st 0 = 109) (h : ¬ (dg_ t (st + 2) < 3 ∧ dg_ t (st + 1) < dg_ t (st + 2))) : obS t st cl B = none := by unfold obS; rw [if_neg (by omega), if_pos hc, if_neg h]
theorem ob_m1 {t : List Nat} {st cl : Nat} {B : Bk} (hc : t.getD st 0 = 109) (h : arS t st cl B = none) : obS t st cl B = none := by unfold obS; rw [if_neg (by omega), if_pos hc, h]; exact ite_self _
theorem ob_m2 {t : List Nat} {st cl : Nat} {B B' : Bk} (hc : t.getD st 0 = 109) (h2 : dg_ t (st + 2) < 3 ∧ dg_ t (st + 1) < dg_ t (st + 2)) (h : arS t st cl B = some B') : obS t st cl B = some B' := by unfold obS; rw [if_neg (by omega), if_pos hc, if_pos h2, h]
theorem ob_k {t : List Nat} {st cl : Nat} {B : Bk} (hc : t.getD st 0 = 107) : obS t st cl B = if dg_ t (st + 1) < 3 ∧ dg_ t (st + 2) < 6 then some (setK B (dg_ t (st + 1)) (dg_ t (st + 2)) (dg_ t (st + 3))) else none := by unfold obS; rw [if_neg (by omega), if_neg (by omega), if_pos hc]
theorem ob_x {t : List Nat} {st cl : Nat} {B : Bk} (hc : t.getD st 0 = 120) : obS t st cl B = if thN B (dg_ t (st + 1)) = true then some (setT B (dg_ t (st + 1))) else none := by unfold obS; rw [if_neg (by omega), if_neg (by omega), if_neg (by omega)]
theorem sp_X8_comesRoute {t : List Nat} {s st cl N : Nat} {B : Bk} {D : Mem} (h : RB D B (th_ B) (kd_ B) (fg_ B)) (hV : VB B) (hP : PDB B) (h256 : ∀ x ∈ t, x < 256) (hs33 : s < 33) (hN : N ≤ 96) (ht : TLD D t s st cl N) (hm : stm t st cl) (hc2 : t.getD st 0 = 114 ∨ t.getD st 0 = 109) {x y z : Int32} (hx : x = nI s) (hy : y = nI (dg_ t (st + 1))) (hz : z = nI (dg_ t (st + 2))) : Rix 3 j_X8_comesRoute [.ref 104, .int x, .int y, .int z] D (fun u D' => OBR D D' u (obS t st cl B)) := by
  refine E.start 4 (ls := [some (.ref 104), some (.int x), some (.int y), some (.int z), none, none, none, none]) (by decide +kernel) (Nat.le_of_ble_eq_true rfl) rfl (Nat.le_refl _) (Nat.le_refl _) ?_
  subst hx; subst hy; subst hz
  have h2 := h.2.1
  have hcm := hV.2.1
  obtain ⟨n0, h129, h130, hn, hv⟩ := ht.2.2.2.2.2 hc2
  have m2 : t.getD (st + 2) 0 ≤ 57 ∧ st + 3 ≤ cl ∧ ∀ k, st + 3 ≤ k → k < cl → t.getD k 0 = 47 → sfm t k := (by
    obtain ⟨s1, s2, s3, s4, s5⟩ := hm
    rcases s5 with q | q | q
    · exact q.2
    · omega
    · omega)
  obtain ⟨m57, hcl3, hsf⟩ := m2
  have hd1 : dg_ t (st + 1) < 10 := (by have := hm.2.2.1; unfold dg_; omega)
  have hd2 : dg_ t (st + 2) < 10 := (by unfold dg_; omega)
  have hb : ∀ k, k < (sl t (st + 3) (cl - (st + 3))).length → (sl t (st + 3) (cl - (st + 3))).getD k 0 < 1000 := sl_all (p := fun v => v < 1000) _ _ (fun k a b c => by have := sgT_le (hsf k a (by omega) c); omega)
  refine X_aload_n (nx := 1) dX8_comesRoute_0 rfl rfl rfl ?_
  refine M_getP (nx := 4) dX8_comesRoute_1 rfl fl_RX8_73 rfl (by first | assumption | rfl | decide | omega) (by first | assumption | rfl | decide | omega) (by first | assumption | rfl | decide | omega) ?_
  refine X_iload_n (nx := 5) dX8_comesRoute_4 rfl rfl rfl ?_
  refine M_ld (a := 126) (L := 33) (nx := 6) dX8_comesRoute_5 rfl (by decide) (by decide) rfl (by decide) (by omega) (ht.1) ?_
  rcases hc2 with hc | hc
  · refine X_top (y := 114) (by rw [hc]; rfl) ?_
    refine X_bipush (v := 114) (nx := 8) dX8_comesRoute_6 rfl rfl ?_
    refine X_icmp_ne (tgt := 15) (nx := 11) dX8_comesRoute_8 rfl rfl (fun h8 => ?_) (fun h8 => ?_)
    · exact absurd h8 (by decide)
    · skip
      refine X_iconst (v := 1) (nx := 12) dX8_comesRoute_11 rfl rfl ?_
      refine X_goto (tgt := 16) dX8_comesRoute_12 rfl ?_
      refine X_istore (i := 4) (nx := 18) dX8_comesRoute_16 rfl (by decide) rfl (st_s (st_s (st_s (st_s (st_0))))) ?_
      refine X_aload_n (nx := 19) dX8_comesRoute_18 rfl rfl rfl ?_
      refine M_getP (nx := 22) dX8_comesRoute_19 rfl fl_RX8_85 rfl (by first | assumption | rfl | decide | omega) (by first | assumption | rfl | decide | omega) (by first | assumption | rfl | decide | omega) ?_
      refine X_iload_n (nx := 23) dX8_comesRoute_22 rfl rfl rfl ?_
      refine M_ld (a := 130) (L := 33) (nx := 24) dX8_comesRoute_23 rfl (by decide) (by decide) rfl (by decide) (by omega) (h130) ?_
      refine X_istore (i := 5) (nx := 26) dX8_comesRoute_24 rfl (by decide) rfl (st_s (st_s (st_s (st_s (st_s (st_0)))))) ?_
      refine X_iload_n (nx := 27) dX8_comesRoute_26 rfl rfl rfl ?_
      refine Y_Si1 (nx := 30) dX8_comesRoute_27 rfl ml_RX8_240 kj_X8_isRouter ks_X8_isRouter (sp_X8_isRouter) (by first | decide | omega) (by exact Nat.le_of_ble_eq_true rfl) ?_
      refine X_top (congrArg b2i (dI3 (by omega))) ?_
      refine X_if_eq (tgt := 64) (nx := 33) dX8_comesRoute_30 rfl rfl (fun h30 => ?_) (fun h30 => ?_)
      · skip
        have n30 := nb h30
        refine X_iconst (v := 0) (nx := 65) dX8_comesRoute_64 rfl rfl ?_
        refine X_istore (i := 6) (nx := 67) dX8_comesRoute_65 rfl (by decide) rfl (st_s (st_s (st_s (st_s (st_s (st_s (st_0))))))) ?_
        refine X_iload (nx := 69) dX8_comesRoute_67 rfl rfl ?_
        refine X_if_eq (tgt := 98) (nx := 72) dX8_comesRoute_69 rfl rfl (fun h69 => ?_) (fun h69 => ?_)
        · skip
          refine X_iconst (v := 0) (nx := 99) dX8_comesRoute_98 rfl rfl ?_
          exact Z_reti dX8_comesRoute_99 (Or.inr ⟨rfl, by first | exact Or.inl rfl | exact Or.inr rfl | exact b2i_01 _ | assumption⟩) (OBR.no (by first
            | exact ob_r0 hc (fun q => n42 (decide_eq_true q))
            | exact ob_r1 hc (ar_none (r := true) (by rw [hc]; rfl) (by omega) hcl3 hsf (fun q => n30 (decide_eq_true q.1.1)))
            | exact ob_r1 hc (ar_none (r := true) (by rw [hc]; rfl) (by omega) hcl3 hsf (fun q => g83no q.2))
            | exact ob_r1 hc (ar_none (r := true) (by rw [hc]; rfl) (by omega) hcl3 hsf (fun q => (by have := q.1.2; omega)))))
        · exact absurd h69 (by decide)
      · skip
        have c30 := of_decide_eq_true (b2i_t.mp h30)
        refine X_iload (nx := 35) dX8_comesRoute_33 rfl rfl ?_
        refine X_if_eq (tgt := 48) (nx := 38) dX8_comesRoute_35 rfl rfl (fun h35 => ?_) (fun h35 => ?_)
        · exact absurd h35 (by decide)
        · skip
          refine X_iload_n (nx := 39) dX8_comesRoute_38 rfl rfl rfl ?_
          refine Y_Si1 (nx := 42) dX8_comesRoute_39 rfl ml_RX8_243 kj_X8_isVerb ks_X8_isVerb (sp_X8_isVerb) (by first | decide | omega) (by exact Nat.le_of_ble_eq_true rfl) ?_
          refine X_top (congrArg b2i (dI4 (by omega))) ?_
          refine X_if_eq (tgt := 64) (nx := 45) dX8_comesRoute_42 rfl rfl (fun h42 => ?_) (fun h42 => ?_)
          · skip
            have n42 := nb h42
            refine X_iconst (v := 0) (nx := 65) dX8_comesRoute_64 rfl rfl ?_
            refine X_istore (i := 6) (nx := 67) dX8_comesRoute_65 rfl (by decide) rfl (st_s (st_s (st_s (st_s (st_s (st_s (st_0))))))) ?_
            refine X_iload (nx := 69) dX8_comesRoute_67 rfl rfl ?_
            refine X_if_eq (tgt := 98) (nx := 72) dX8_comesRoute_69 rfl rfl (fun h69 => ?_) (fun h69 => ?_)
            · skip
              refine X_iconst (v := 0) (nx := 99) dX8_comesRoute_98 rfl rfl ?_
              exact Z_reti dX8_comesRoute_99 (Or.inr ⟨rfl, by first | exact Or.inl rfl | exact Or.inr rfl | exact b2i_01 _ | assumption⟩) (OBR.no (by first
                | exact ob_r0 hc (fun q => n42 (decide_eq_true q))
                | exact ob_r1 hc (ar_none (r := true) (by rw [hc]; rfl) (by omega) hcl3 hsf (fun q => n30 (decide_eq_true q.1.1)))
                | exact ob_r1 hc (ar_none (r := true) (by rw [hc]; rfl) (by omega) hcl3 hsf (fun q => g83no q.2))
                | exact ob_r1 hc (ar_none (r := true) (by rw [hc]; rfl) (by omega) hcl3 hsf (fun q => (by have := q.1.2; omega)))))
            · exact absurd h69 (by decide)
          · skip
            have c42 := of_decide_eq_true (b2i_t.mp h42)
            refine X_goto (tgt := 60) dX8_comesRoute_45 rfl ?_
            refine X_iconst (v := 1) (nx := 61) dX8_comesRoute_60 rfl rfl ?_
            refine X_goto (tgt := 65) dX8_comesRoute_61 rfl ?_
            refine X_istore (i := 6) (nx := 67) dX8_comesRoute_65 rfl (by decide) rfl (st_s (st_s (st_s (st_s (st_s (st_s (st_0))))))) ?_
            refine X_iload (nx := 69) dX8_comesRoute_67 rfl rfl ?_
            refine X_if_eq (tgt := 98) (nx := 72) dX8_comesRoute_69 rfl rfl (fun h69 => ?_) (fun h69 => ?_)
            · exact absurd h69 (by decide)
            · skip
              refine X_aload_n (nx := 73) dX8_comesRoute_72 rfl rfl rfl ?_
              refine X_aload_n (nx := 74) dX8_comesRoute_73 rfl rfl rfl ?_
              refine M_getP (nx := 77) dX8_comesRoute_74 rfl fl_RX8_82 rfl (by first | assumption | rfl | decide | omega) (by first | assumption | rfl | decide | omega) (by first | assumption | rfl | decide | omega) ?_
              refine X_iload_n (nx := 78) dX8_comesRoute_77 rfl rfl rfl ?_
              refine M_ld (a := 129) (L := 33) (nx := 79) dX8_comesRoute_78 rfl (by decide) (by decide) rfl (by decide) (by omega) (h129) ?_
              refine X_iload (nx := 81) dX8_comesRoute_79 rfl rfl ?_
              refine X_iload (nx := 83) dX8_comesRoute_81 rfl rfl ?_
              refine Z_Vi3 (nx := 86) dX8_comesRoute_83 rfl ml_RX8_246 kj_X8_areSegments kv_X8_areSegments (sp_X8_areSegments (r := true) hv (by omega) hb rfl rfl rfl) (by first | assumption | rfl | decide | omega) (by first | assumption | rfl | decide | omega) (by decide) rfl (by first | decide | omega) (by exact Nat.le_of_ble_eq_true rfl) (fun u83 D83 g83 => ?_)
              refine X_if_eq (tgt := 98) (nx := 89) dX8_comesRoute_86 rfl rfl (fun h86 => ?_) (fun h86 => ?_)
              · skip
                obtain ⟨e83, g⟩ := g83
                subst e83
                have g83no : ¬ okG (sl t (st + 3) (cl - (st + 3))) true := (g.elim (fun q => absurd (q.1.symm.trans h86) (by decide)) (fun q => q.2))
                refine X_iconst (v := 0) (nx := 99) dX8_comesRoute_98 rfl rfl ?_
                exact Z_reti dX8_comesRoute_99 (Or.inr ⟨rfl, by first | exact Or.inl rfl | exact Or.inr rfl | exact b2i_01 _ | assumption⟩) (OBR.no (by first
                  | exact ob_r0 hc (fun q => n42 (decide_eq_true q))
                  | exact ob_r1 hc (ar_none (r := true) (by rw [hc]; rfl) (by omega) hcl3 hsf (fun q => n30 (decide_eq_true q.1.1)))
                  | exact ob_r1 hc (ar_none (r := true) (by rw [hc]; rfl) (by omega) hcl3 hsf (fun q => g83no q.2))
                  | exact ob_r1 hc (ar_none (r := true) (by rw [hc]; rfl) (by omega) hcl3 hsf (fun q => (by have := q.1.2; omega)))))
              · skip
                obtain ⟨e83, g⟩ := g83
                subst e83
                have g83 : okG (sl t (st + 3) (cl - (st + 3))) true := (g.elim (fun q => q.2) (fun q => absurd q.1 h86))
                refine X_aload_n (nx := 90) dX8_comesRoute_89 rfl rfl rfl ?_
                refine M_getI (nx := 93) dX8_comesRoute_90 rfl fl_RX8_109 rfl (by first | assumption | rfl | decide | omega) (by first | assumption | rfl | decide | omega) ?_
                refine X_top (h.2.1) ?_
                refine X_bipush (v := nI 10) (nx := 95) dX8_comesRoute_93 rfl rfl ?_
                refine X_icmp_ne (tgt := 100) (nx := 98) dX8_comesRoute_95 rfl rfl (fun h95 => ?_) (fun h95 => ?_)
                · skip
                  rw [nI_eq (by omega) (by omega)] at h95
                  refine X_aload_n (nx := 101) dX8_comesRoute_100 rfl rfl rfl ?_
                  refine X_iload_n (nx := 102) dX8_comesRoute_101 rfl rfl rfl ?_
                  refine X_iload (nx := 104) dX8_comesRoute_102 rfl rfl ?_
                  refine X_if_eq (tgt := 111) (nx := 107) dX8_comesRoute_104 rfl rfl (fun h104 => ?_) (fun h104 => ?_)
                  · exact absurd h104 (by decide)
                  · skip
                    refine X_iload_n (nx := 108) dX8_comesRoute_107 rfl rfl rfl ?_
                    refine X_goto (tgt := 113) dX8_comesRoute_108 rfl ?_
                    refine X_iload (nx := 115) dX8_comesRoute_113 rfl rfl ?_
                    refine X_if_eq (tgt := 123) (nx := 118) dX8_comesRoute_115 rfl rfl (fun h115 => ?_) (fun h115 => ?_)
                    · exact absurd h115 (by decide)
                    · skip
                      refine X_bipush (v := -9) (nx := 120) dX8_comesRoute_118 rfl rfl ?_
                      refine X_goto (tgt := 124) dX8_comesRoute_120 rfl ?_
                      refine X_iload (nx := 126) dX8_comesRoute_124 rfl rfl ?_
                      refine Y_Vv4 (nx := 129) dX8_comesRoute_126 rfl ml_RX8_250 kj_X8_isMore kv_X8_isMore (sp_X8_isMore h.2.1 (by omega)) (by first | assumption | rfl | decide | omega) (by first | assumption | rfl | decide | omega) (by decide) rfl (by first | decide | omega) (by exact Nat.le_of_ble_eq_true rfl) ?_
                      refine X_iconst (v := 0) (nx := 130) dX8_comesRoute_129 rfl rfl ?_
                      refine X_istore (i := 7) (nx := 132) dX8_comesRoute_130 rfl (by decide) rfl (st_s (st_s (st_s (st_s (st_s (st_s (st_s (st_0)))))))) ?_
                      have hcm10 : cm_ B < 10 := (by omega)
                      have hl4 := g83.1
                      have A := ar_some (t := t) (st := st) (cl := cl) (B := B) (r := true) (by rw [hc]; rfl) (by omega) hcl3 hsf ⟨c30, hcm10⟩ g83
                      have ho : obS t st cl B = some (addB B (dg_ t (st + 1)) (nI (dg_ t (st + 2))) (-9) (sl t (st + 3) (cl - (st + 3)))) := ob_r2 hc c42 (A.1.trans (congrArg some (if_neg (by omega))))
                      exact lp_X8_comesRoute h hV hP hs33 hN hcm10 h129 hn hl4 hv ho (VB_add hV hcm10 c30 A.2.1 (Or.inl ⟨rfl, dg_ t (st + 2), c42, rfl⟩)) (PDB_add hP A.2.2.1) (sl t (st + 3) (cl - (st + 3))).length 0 _ (Nat.zero_add _) Fq.rf (fun k hk => absurd hk (Nat.not_lt_zero _))
                · skip
                  rw [nI_eq (by omega) (by omega)] at h95
                  refine X_iconst (v := 0) (nx := 99) dX8_comesRoute_98 rfl rfl ?_
                  exact Z_reti dX8_comesRoute_99 (Or.inr ⟨rfl, by first | exact Or.inl rfl | exact Or.inr rfl | exact b2i_01 _ | assumption⟩) (OBR.no (by first
                    | exact ob_r0 hc (fun q => n42 (decide_eq_true q))
                    | exact ob_r1 hc (ar_none (r := true) (by rw [hc]; rfl) (by omega) hcl3 hsf (fun q => n30 (decide_eq_true q.1.1)))
                    | exact ob_r1 hc (ar_none (r := true) (by rw [hc]; rfl) (by omega) hcl3 hsf (fun q => g83no q.2))
                    | exact ob_r1 hc (ar_none (r := true) (by rw [hc]; rfl) (by omega) hcl3 hsf (fun q => (by have := q.1.2; omega)))))
  · refine X_top (y := 109) (by rw [hc]; rfl) ?_
    refine X_bipush (v := 114) (nx := 8) dX8_comesRoute_6 rfl rfl ?_
    refine X_icmp_ne (tgt := 15) (nx := 11) dX8_comesRoute_8 rfl rfl (fun h8 => ?_) (fun h8 => ?_)
    · skip
      refine X_iconst (v := 0) (nx := 16) dX8_comesRoute_15 rfl rfl ?_
      refine X_istore (i := 4) (nx := 18) dX8_comesRoute_16 rfl (by decide) rfl (st_s (st_s (st_s (st_s (st_0))))) ?_
      refine X_aload_n (nx := 19) dX8_comesRoute_18 rfl rfl rfl ?_
      refine M_getP (nx := 22) dX8_comesRoute_19 rfl fl_RX8_85 rfl (by first | assumption | rfl | decide | omega) (by first | assumption | rfl | decide | omega) (by first | assumption | rfl | decide | omega) ?_
      refine X_iload_n (nx := 23) dX8_comesRoute_22 rfl rfl rfl ?_
      refine M_ld (a := 130) (L := 33) (nx := 24) dX8_comesRoute_23 rfl (by decide) (by decide) rfl (by decide) (by omega) (h130) ?_
      refine X_istore (i := 5) (nx := 26) dX8_comesRoute_24 rfl (by decide) rfl (st_s (st_s (st_s (st_s (st_s (st_0)))))) ?_
      refine X_iload_n (nx := 27) dX8_comesRoute_26 rfl rfl rfl ?_
      refine Y_Si1 (nx := 30) dX8_comesRoute_27 rfl ml_RX8_240 kj_X8_isRouter ks_X8_isRouter (sp_X8_isRouter) (by first | decide | omega) (by exact Nat.le_of_ble_eq_true rfl) ?_
      refine X_top (congrArg b2i (dI3 (by omega))) ?_
      refine X_if_eq (tgt := 64) (nx := 33) dX8_comesRoute_30 rfl rfl (fun h30 => ?_) (fun h30 => ?_)
      · skip
        have n30 := nb h30
        refine X_iconst (v := 0) (nx := 65) dX8_comesRoute_64 rfl rfl ?_
        refine X_istore (i := 6) (nx := 67) dX8_comesRoute_65 rfl (by decide) rfl (st_s (st_s (st_s (st_s (st_s (st_s (st_0))))))) ?_
        refine X_iload (nx := 69) dX8_comesRoute_67 rfl rfl ?_
        refine X_if_eq (tgt := 98) (nx := 72) dX8_comesRoute_69 rfl rfl (fun h69 => ?_) (fun h69 => ?_)
        · skip
          refine X_iconst (v := 0) (nx := 99) dX8_comesRoute_98 rfl rfl ?_
          exact Z_reti dX8_comesRoute_99 (Or.inr ⟨rfl, by first | exact Or.inl rfl | exact Or.inr rfl | exact b2i_01 _ | assumption⟩) (OBR.no (by first
            | exact ob_m0 hc (fun q => n52 (decide_eq_true q.1))
            | exact ob_m0 hc (fun q => by have := q.2; omega)
            | exact ob_m1 hc (ar_none (r := false) (by rw [hc]; rfl) (by omega) hcl3 hsf (fun q => n30 (decide_eq_true q.1.1)))
            | exact ob_m1 hc (ar_none (r := false) (by rw [hc]; rfl) (by omega) hcl3 hsf (fun q => g83no q.2))
            | exact ob_m1 hc (ar_none (r := false) (by rw [hc]; rfl) (by omega) hcl3 hsf (fun q => (by have := q.1.2; omega)))))
        · exact absurd h69 (by decide)
      · skip
        have c30 := of_decide_eq_true (b2i_t.mp h30)
        refine X_iload (nx := 35) dX8_comesRoute_33 rfl rfl ?_
        refine X_if_eq (tgt := 48) (nx := 38) dX8_comesRoute_35 rfl rfl (fun h35 => ?_) (fun h35 => ?_)
        · skip
          refine X_iload_n (nx := 49) dX8_comesRoute_48 rfl rfl rfl ?_
          refine Y_Si1 (nx := 52) dX8_comesRoute_49 rfl ml_RX8_240 kj_X8_isRouter ks_X8_isRouter (sp_X8_isRouter) (by first | decide | omega) (by exact Nat.le_of_ble_eq_true rfl) ?_
          refine X_top (congrArg b2i (dI3 (by omega))) ?_
          refine X_if_eq (tgt := 64) (nx := 55) dX8_comesRoute_52 rfl rfl (fun h52 => ?_) (fun h52 => ?_)
          · skip
            have n52 := nb h52
            refine X_iconst (v := 0) (nx := 65) dX8_comesRoute_64 rfl rfl ?_
            refine X_istore (i := 6) (nx := 67) dX8_comesRoute_65 rfl (by decide) rfl (st_s (st_s (st_s (st_s (st_s (st_s (st_0))))))) ?_
            refine X_iload (nx := 69) dX8_comesRoute_67 rfl rfl ?_
            refine X_if_eq (tgt := 98) (nx := 72) dX8_comesRoute_69 rfl rfl (fun h69 => ?_) (fun h69 => ?_)
            · skip
              refine X_iconst (v := 0) (nx := 99) dX8_comesRoute_98 rfl rfl ?_
              exact Z_reti dX8_comesRoute_99 (Or.inr ⟨rfl, by first | exact Or.inl rfl | exact Or.inr rfl | exact b2i_01 _ | assumption⟩) (OBR.no (by first
                | exact ob_m0 hc (fun q => n52 (decide_eq_true q.1))
                | exact ob_m0 hc (fun q => by have := q.2; omega)
                | exact ob_m1 hc (ar_none (r := false) (by rw [hc]; rfl) (by omega) hcl3 hsf (fun q => n30 (decide_eq_true q.1.1)))
                | exact ob_m1 hc (ar_none (r := false) (by rw [hc]; rfl) (by omega) hcl3 hsf (fun q => g83no q.2))
                | exact ob_m1 hc (ar_none (r := false) (by rw [hc]; rfl) (by omega) hcl3 hsf (fun q => (by have := q.1.2; omega)))))
            · exact absurd h69 (by decide)
          · skip
            have c52 := of_decide_eq_true (b2i_t.mp h52)
            refine X_iload_n (nx := 56) dX8_comesRoute_55 rfl rfl rfl ?_
            refine X_iload_n (nx := 57) dX8_comesRoute_56 rfl rfl rfl ?_
            refine X_icmp_le (tgt := 64) (nx := 60) dX8_comesRoute_57 rfl rfl (fun h57 => ?_) (fun h57 => ?_)
            · skip
              rw [nI_leI (by omega) (by omega)] at h57
              refine X_iconst (v := 0) (nx := 65) dX8_comesRoute_64 rfl rfl ?_
              refine X_istore (i := 6) (nx := 67) dX8_comesRoute_65 rfl (by decide) rfl (st_s (st_s (st_s (st_s (st_s (st_s (st_0))))))) ?_
              refine X_iload (nx := 69) dX8_comesRoute_67 rfl rfl ?_
              refine X_if_eq (tgt := 98) (nx := 72) dX8_comesRoute_69 rfl rfl (fun h69 => ?_) (fun h69 => ?_)
              · skip
                refine X_iconst (v := 0) (nx := 99) dX8_comesRoute_98 rfl rfl ?_
                exact Z_reti dX8_comesRoute_99 (Or.inr ⟨rfl, by first | exact Or.inl rfl | exact Or.inr rfl | exact b2i_01 _ | assumption⟩) (OBR.no (by first
                  | exact ob_m0 hc (fun q => n52 (decide_eq_true q.1))
                  | exact ob_m0 hc (fun q => by have := q.2; omega)
                  | exact ob_m1 hc (ar_none (r := false) (by rw [hc]; rfl) (by omega) hcl3 hsf (fun q => n30 (decide_eq_true q.1.1)))
                  | exact ob_m1 hc (ar_none (r := false) (by rw [hc]; rfl) (by omega) hcl3 hsf (fun q => g83no q.2))
                  | exact ob_m1 hc (ar_none (r := false) (by rw [hc]; rfl) (by omega) hcl3 hsf (fun q => (by have := q.1.2; omega)))))
              · exact absurd h69 (by decide)
            · skip
              rw [nI_leI (by omega) (by omega)] at h57
              refine X_iconst (v := 1) (nx := 61) dX8_comesRoute_60 rfl rfl ?_
              refine X_goto (tgt := 65) dX8_comesRoute_61 rfl ?_
              refine X_istore (i := 6) (nx := 67) dX8_comesRoute_65 rfl (by decide) rfl (st_s (st_s (st_s (st_s (st_s (st_s (st_0))))))) ?_
              refine X_iload (nx := 69) dX8_comesRoute_67 rfl rfl ?_
              refine X_if_eq (tgt := 98) (nx := 72) dX8_comesRoute_69 rfl rfl (fun h69 => ?_) (fun h69 => ?_)
              · exact absurd h69 (by decide)
              · skip
                refine X_aload_n (nx := 73) dX8_comesRoute_72 rfl rfl rfl ?_
                refine X_aload_n (nx := 74) dX8_comesRoute_73 rfl rfl rfl ?_
                refine M_getP (nx := 77) dX8_comesRoute_74 rfl fl_RX8_82 rfl (by first | assumption | rfl | decide | omega) (by first | assumption | rfl | decide | omega) (by first | assumption | rfl | decide | omega) ?_
                refine X_iload_n (nx := 78) dX8_comesRoute_77 rfl rfl rfl ?_
                refine M_ld (a := 129) (L := 33) (nx := 79) dX8_comesRoute_78 rfl (by decide) (by decide) rfl (by decide) (by omega) (h129) ?_
                refine X_iload (nx := 81) dX8_comesRoute_79 rfl rfl ?_
                refine X_iload (nx := 83) dX8_comesRoute_81 rfl rfl ?_
                refine Z_Vi3 (nx := 86) dX8_comesRoute_83 rfl ml_RX8_246 kj_X8_areSegments kv_X8_areSegments (sp_X8_areSegments (r := false) hv (by omega) hb rfl rfl rfl) (by first | assumption | rfl | decide | omega) (by first | assumption | rfl | decide | omega) (by decide) rfl (by first | decide | omega) (by exact Nat.le_of_ble_eq_true rfl) (fun u83 D83 g83 => ?_)
                refine X_if_eq (tgt := 98) (nx := 89) dX8_comesRoute_86 rfl rfl (fun h86 => ?_) (fun h86 => ?_)
                · skip
                  obtain ⟨e83, g⟩ := g83
                  subst e83
                  have g83no : ¬ okG (sl t (st + 3) (cl - (st + 3))) false := (g.elim (fun q => absurd (q.1.symm.trans h86) (by decide)) (fun q => q.2))
                  refine X_iconst (v := 0) (nx := 99) dX8_comesRoute_98 rfl rfl ?_
                  exact Z_reti dX8_comesRoute_99 (Or.inr ⟨rfl, by first | exact Or.inl rfl | exact Or.inr rfl | exact b2i_01 _ | assumption⟩) (OBR.no (by first
                    | exact ob_m0 hc (fun q => n52 (decide_eq_true q.1))
                    | exact ob_m0 hc (fun q => by have := q.2; omega)
                    | exact ob_m1 hc (ar_none (r := false) (by rw [hc]; rfl) (by omega) hcl3 hsf (fun q => n30 (decide_eq_true q.1.1)))
                    | exact ob_m1 hc (ar_none (r := false) (by rw [hc]; rfl) (by omega) hcl3 hsf (fun q => g83no q.2))
                    | exact ob_m1 hc (ar_none (r := false) (by rw [hc]; rfl) (by omega) hcl3 hsf (fun q => (by have := q.1.2; omega)))))
                · skip
                  obtain ⟨e83, g⟩ := g83
                  subst e83
                  have g83 : okG (sl t (st + 3) (cl - (st + 3))) false := (g.elim (fun q => q.2) (fun q => absurd q.1 h86))
                  refine X_aload_n (nx := 90) dX8_comesRoute_89 rfl rfl rfl ?_
                  refine M_getI (nx := 93) dX8_comesRoute_90 rfl fl_RX8_109 rfl (by first | assumption | rfl | decide | omega) (by first | assumption | rfl | decide | omega) ?_
                  refine X_top (h.2.1) ?_
                  refine X_bipush (v := nI 10) (nx := 95) dX8_comesRoute_93 rfl rfl ?_
                  refine X_icmp_ne (tgt := 100) (nx := 98) dX8_comesRoute_95 rfl rfl (fun h95 => ?_) (fun h95 => ?_)
                  · skip
                    rw [nI_eq (by omega) (by omega)] at h95
                    refine X_aload_n (nx := 101) dX8_comesRoute_100 rfl rfl rfl ?_
                    refine X_iload_n (nx := 102) dX8_comesRoute_101 rfl rfl rfl ?_
                    refine X_iload (nx := 104) dX8_comesRoute_102 rfl rfl ?_
                    refine X_if_eq (tgt := 111) (nx := 107) dX8_comesRoute_104 rfl rfl (fun h104 => ?_) (fun h104 => ?_)
                    · skip
                      refine X_bipush (v := -9) (nx := 113) dX8_comesRoute_111 rfl rfl ?_
                      refine X_iload (nx := 115) dX8_comesRoute_113 rfl rfl ?_
                      refine X_if_eq (tgt := 123) (nx := 118) dX8_comesRoute_115 rfl rfl (fun h115 => ?_) (fun h115 => ?_)
                      · skip
                        refine X_iload_n (nx := 124) dX8_comesRoute_123 rfl rfl rfl ?_
                        refine X_iload (nx := 126) dX8_comesRoute_124 rfl rfl ?_
                        refine Y_Vv4 (nx := 129) dX8_comesRoute_126 rfl ml_RX8_250 kj_X8_isMore kv_X8_isMore (sp_X8_isMore h.2.1 (by omega)) (by first | assumption | rfl | decide | omega) (by first | assumption | rfl | decide | omega) (by decide) rfl (by first | decide | omega) (by exact Nat.le_of_ble_eq_true rfl) ?_
                        refine X_iconst (v := 0) (nx := 130) dX8_comesRoute_129 rfl rfl ?_
                        refine X_istore (i := 7) (nx := 132) dX8_comesRoute_130 rfl (by decide) rfl (st_s (st_s (st_s (st_s (st_s (st_s (st_s (st_0)))))))) ?_
                        have hcm10 : cm_ B < 10 := (by omega)
                        have hl4 := g83.1
                        have A := ar_some (t := t) (st := st) (cl := cl) (B := B) (r := false) (by rw [hc]; rfl) (by omega) hcl3 hsf ⟨c30, hcm10⟩ g83
                        have ho : obS t st cl B = some (addB B (dg_ t (st + 1)) (-9) (nI (dg_ t (st + 2))) (sl t (st + 3) (cl - (st + 3)))) := ob_m2 hc ⟨c52, by omega⟩ (A.1.trans (congrArg some (if_pos hc)))
                        exact lp_X8_comesRoute h hV hP hs33 hN hcm10 h129 hn hl4 hv ho (VB_add hV hcm10 c30 A.2.1 (Or.inr ⟨rfl, dg_ t (st + 2), rfl, by omega, c52, A.2.2.2 rfl⟩)) (PDB_add hP A.2.2.1) (sl t (st + 3) (cl - (st + 3))).length 0 _ (Nat.zero_add _) Fq.rf (fun k hk => absurd hk (Nat.not_lt_zero _))
                      · exact absurd h115 (by decide)
                    · exact absurd h104 (by decide)
                  · skip
                    rw [nI_eq (by omega) (by omega)] at h95
                    refine X_iconst (v := 0) (nx := 99) dX8_comesRoute_98 rfl rfl ?_
                    exact Z_reti dX8_comesRoute_99 (Or.inr ⟨rfl, by first | exact Or.inl rfl | exact Or.inr rfl | exact b2i_01 _ | assumption⟩) (OBR.no (by first
                      | exact ob_m0 hc (fun q => n52 (decide_eq_true q.1))
                      | exact ob_m0 hc (fun q => by have := q.2; omega)
                      | exact ob_m1 hc (ar_none (r := false) (by rw [hc]; rfl) (by omega) hcl3 hsf (fun q => n30 (decide_eq_true q.1.1)))
                      | exact ob_m1 hc (ar_none (r := false) (by rw [hc]; rfl) (by omega) hcl3 hsf (fun q => g83no q.2))
                      | exact ob_m1 hc (ar_none (r := false) (by rw [hc]; rfl) (by omega) hcl3 hsf (fun q => (by have := q.1.2; omega)))))
        · exact absurd h35 (by decide)
    · exact absurd h8 (by decide)
theorem dX8_comesTold_0 : decode cX8_comesTold 0 = .ok (.iconst 3, 1) := by decide +kernel
theorem dX8_comesTold_1 : decode cX8_comesTold 1 = .ok (.iload_n 1, 1) := by decide +kernel
theorem dX8_comesTold_2 : decode cX8_comesTold 2 = .ok (.imul, 1) := by decide +kernel
theorem dX8_comesTold_3 : decode cX8_comesTold 3 = .ok (.istore_n 2, 1) := by decide +kernel
theorem dX8_comesTold_4 : decode cX8_comesTold 4 = .ok (.aload_n 0, 1) := by decide +kernel
theorem dX8_comesTold_5 : decode cX8_comesTold 5 = .ok (.getfield 73, 3) := by decide +kernel
theorem dX8_comesTold_8 : decode cX8_comesTold 8 = .ok (.iload_n 1, 1) := by decide +kernel
theorem dX8_comesTold_9 : decode cX8_comesTold 9 = .ok (.iaload, 1) := by decide +kernel
theorem dX8_comesTold_10 : decode cX8_comesTold 10 = .ok (.lookupswitch 64 #[(107, 26), (120, 53)], 26) := by decide +kernel
theorem dX8_comesTold_36 : decode cX8_comesTold 36 = .ok (.aload_n 0, 1) := by decide +kernel
theorem dX8_comesTold_37 : decode cX8_comesTold 37 = .ok (.aload_n 0, 1) := by decide +kernel
theorem dX8_comesTold_38 : decode cX8_comesTold 38 = .ok (.getfield 79, 3) := by decide +kernel
theorem dX8_comesTold_41 : decode cX8_comesTold 41 = .ok (.iload_n 2, 1) := by decide +kernel
theorem dX8_comesTold_42 : decode cX8_comesTold 42 = .ok (.iaload, 1) := by decide +kernel
theorem dX8_comesTold_43 : decode cX8_comesTold 43 = .ok (.aload_n 0, 1) := by decide +kernel
theorem dX8_comesTold_44 : decode cX8_comesTold 44 = .ok (.getfield 79, 3) := by decide +kernel
theorem dX8_comesTold_47 : decode cX8_comesTold 47 = .ok (.iload_n 2, 1) := by decide +kernel
theorem dX8_comesTold_48 : decode cX8_comesTold 48 = .ok (.iconst 1, 1) := by decide +kernel
theorem dX8_comesTold_49 : decode cX8_comesTold 49 = .ok (.iadd, 1) := by decide +kernel
theorem dX8_comesTold_50 : decode cX8_comesTold 50 = .ok (.iaload, 1) := by decide +kernel
theorem dX8_comesTold_51 : decode cX8_comesTold 51 = .ok (.aload_n 0, 1) := by decide +kernel
theorem dX8_comesTold_52 : decode cX8_comesTold 52 = .ok (.getfield 79, 3) := by decide +kernel
theorem dX8_comesTold_55 : decode cX8_comesTold 55 = .ok (.iload_n 2, 1) := by decide +kernel
theorem dX8_comesTold_56 : decode cX8_comesTold 56 = .ok (.iconst 2, 1) := by decide +kernel
theorem dX8_comesTold_57 : decode cX8_comesTold 57 = .ok (.iadd, 1) := by decide +kernel
theorem dX8_comesTold_58 : decode cX8_comesTold 58 = .ok (.iaload, 1) := by decide +kernel
theorem dX8_comesTold_59 : decode cX8_comesTold 59 = .ok (.invokevirtual 257, 3) := by decide +kernel
theorem dX8_comesTold_62 : decode cX8_comesTold 62 = .ok (.ireturn, 1) := by decide +kernel
theorem dX8_comesTold_63 : decode cX8_comesTold 63 = .ok (.aload_n 0, 1) := by decide +kernel
theorem dX8_comesTold_64 : decode cX8_comesTold 64 = .ok (.aload_n 0, 1) := by decide +kernel
theorem dX8_comesTold_65 : decode cX8_comesTold 65 = .ok (.getfield 79, 3) := by decide +kernel
theorem dX8_comesTold_68 : decode cX8_comesTold 68 = .ok (.iload_n 2, 1) := by decide +kernel
theorem dX8_comesTold_69 : decode cX8_comesTold 69 = .ok (.iaload, 1) := by decide +kernel
theorem dX8_comesTold_70 : decode cX8_comesTold 70 = .ok (.invokevirtual 260, 3) := by decide +kernel
theorem dX8_comesTold_73 : decode cX8_comesTold 73 = .ok (.ireturn, 1) := by decide +kernel
theorem dX8_comesTold_74 : decode cX8_comesTold 74 = .ok (.aload_n 0, 1) := by decide +kernel
theorem dX8_comesTold_75 : decode cX8_comesTold 75 = .ok (.iload_n 1, 1) := by decide +kernel
theorem dX8_comesTold_76 : decode cX8_comesTold 76 = .ok (.aload_n 0, 1) := by decide +kernel
theorem dX8_comesTold_77 : decode cX8_comesTold 77 = .ok (.getfield 79, 3) := by decide +kernel
theorem dX8_comesTold_80 : decode cX8_comesTold 80 = .ok (.iload_n 2, 1) := by decide +kernel
theorem dX8_comesTold_81 : decode cX8_comesTold 81 = .ok (.iaload, 1) := by decide +kernel
theorem dX8_comesTold_82 : decode cX8_comesTold 82 = .ok (.aload_n 0, 1) := by decide +kernel
theorem dX8_comesTold_83 : decode cX8_comesTold 83 = .ok (.getfield 79, 3) := by decide +kernel
theorem dX8_comesTold_86 : decode cX8_comesTold 86 = .ok (.iload_n 2, 1) := by decide +kernel
theorem dX8_comesTold_87 : decode cX8_comesTold 87 = .ok (.iconst 1, 1) := by decide +kernel
theorem dX8_comesTold_88 : decode cX8_comesTold 88 = .ok (.iadd, 1) := by decide +kernel
theorem dX8_comesTold_89 : decode cX8_comesTold 89 = .ok (.iaload, 1) := by decide +kernel
theorem dX8_comesTold_90 : decode cX8_comesTold 90 = .ok (.invokevirtual 263, 3) := by decide +kernel
theorem dX8_comesTold_93 : decode cX8_comesTold 93 = .ok (.ireturn, 1) := by decide +kernel
theorem sp_X8_comesTold {t : List Nat} {s st cl N : Nat} {B : Bk} {D : Mem} (h : RB D B (th_ B) (kd_ B) (fg_ B)) (hV : VB B) (hP : PDB B) (h256 : ∀ x ∈ t, x < 256) (hs33 : s < 33) (hN : N ≤ 96) (ht : TLD D t s st cl N) (hm : stm t st cl) {x : Int32} (hx : x = nI s) : Rix 4 j_X8_comesTold [.ref 104, .int x] D (fun u D' => OBR D D' u (obS t st cl B)) := by
  refine E.start 1 (ls := [some (.ref 104), some (.int x), none]) (by decide +kernel) (Nat.le_of_ble_eq_true rfl) rfl (Nat.le_refl _) (Nat.le_refl _) ?_
  subst hx
  have hd1 : dg_ t (st + 1) < 10 := (by have := hm.2.2.1; unfold dg_; omega)
  have hc4 : t.getD st 0 = 107 ∨ t.getD st 0 = 120 ∨ t.getD st 0 = 114 ∨ t.getD st 0 = 109 := (by have := hm.2.2.2.2; omega)
  refine X_iconst (v := nI 3) (nx := 1) dX8_comesTold_0 rfl rfl ?_
  refine X_iload_n (nx := 2) dX8_comesTold_1 rfl rfl rfl ?_
  refine X_imul (nx := 3) dX8_comesTold_2 rfl ?_
  refine X_top (mul_nI) ?_
  refine X_istore_n (i := 2) (nx := 4) dX8_comesTold_3 rfl rfl (by decide) rfl (st_s (st_s (st_0))) ?_
  refine X_aload_n (nx := 5) dX8_comesTold_4 rfl rfl rfl ?_
  refine M_getP (nx := 8) dX8_comesTold_5 rfl fl_RX8_73 rfl (by first | assumption | rfl | decide | omega) (by first | assumption | rfl | decide | omega) (by first | assumption | rfl | decide | omega) ?_
  refine X_iload_n (nx := 9) dX8_comesTold_8 rfl rfl rfl ?_
  refine M_ld (a := 126) (L := 33) (nx := 10) dX8_comesTold_9 rfl (by decide) (by decide) rfl (by decide) (by omega) (ht.1) ?_
  rcases hc4 with e | e | e | e
  · skip
    refine X_top (y := 107) (by rw [e]; rfl) ?_
    refine X_lookup (tgt := 36) (off := 26) dX8_comesTold_10 (by decide) (by decide) rfl ?_
    refine X_aload_n (nx := 37) dX8_comesTold_36 rfl rfl rfl ?_
    refine X_aload_n (nx := 38) dX8_comesTold_37 rfl rfl rfl ?_
    refine M_getP (nx := 41) dX8_comesTold_38 rfl fl_RX8_79 rfl (by first | assumption | rfl | decide | omega) (by first | assumption | rfl | decide | omega) (by first | assumption | rfl | decide | omega) ?_
    refine X_iload_n (nx := 42) dX8_comesTold_41 rfl rfl rfl ?_
    refine M_ld (a := 128) (L := 99) (nx := 43) dX8_comesTold_42 rfl (by decide) (by decide) rfl (by decide) (by omega) (ht.2.2.1) ?_
    refine X_aload_n (nx := 44) dX8_comesTold_43 rfl rfl rfl ?_
    refine M_getP (nx := 47) dX8_comesTold_44 rfl fl_RX8_79 rfl (by first | assumption | rfl | decide | omega) (by first | assumption | rfl | decide | omega) (by first | assumption | rfl | decide | omega) ?_
    refine X_iload_n (nx := 48) dX8_comesTold_47 rfl rfl rfl ?_
    refine X_iconst (v := nI 1) (nx := 49) dX8_comesTold_48 rfl rfl ?_
    refine X_iadd (nx := 50) dX8_comesTold_49 rfl ?_
    refine X_top (nI_add _ _) ?_
    refine M_ld (a := 128) (L := 99) (nx := 51) dX8_comesTold_50 rfl (by decide) (by decide) rfl (by decide) (by omega) (ht.2.2.2.1 (by omega)) ?_
    refine X_aload_n (nx := 52) dX8_comesTold_51 rfl rfl rfl ?_
    refine M_getP (nx := 55) dX8_comesTold_52 rfl fl_RX8_79 rfl (by first | assumption | rfl | decide | omega) (by first | assumption | rfl | decide | omega) (by first | assumption | rfl | decide | omega) ?_
    refine X_iload_n (nx := 56) dX8_comesTold_55 rfl rfl rfl ?_
    refine X_iconst (v := nI 2) (nx := 57) dX8_comesTold_56 rfl rfl ?_
    refine X_iadd (nx := 58) dX8_comesTold_57 rfl ?_
    refine X_top (nI_add _ _) ?_
    refine M_ld (a := 128) (L := 99) (nx := 59) dX8_comesTold_58 rfl (by decide) (by decide) rfl (by decide) (by omega) (ht.2.2.2.2.1 e) ?_
    refine Z_Vi3 (nx := 62) dX8_comesTold_59 rfl ml_RX8_257 kj_X8_comesKind kv_X8_comesKind (sp_X8_comesKind h hV hP rfl rfl rfl (by omega) (by have := hm.2.2.2.2; unfold dg_; omega) (by have := hm.2.2.2.2; unfold dg_; omega)) (by first | assumption | rfl | decide | omega) (by first | assumption | rfl | decide | omega) (by decide) rfl (by first | decide | omega) (by exact Nat.le_of_ble_eq_true rfl) (fun u59 D59 g59 => ?_)
    have b59 := g59.b
    exact Z_reti dX8_comesTold_62 (Or.inr ⟨rfl, by first | exact Or.inl rfl | exact Or.inr rfl | exact b2i_01 _ | assumption⟩) (by rw [ob_k e]; exact g59)
  · skip
    refine X_top (y := 120) (by rw [e]; rfl) ?_
    refine X_lookup (tgt := 63) (off := 53) dX8_comesTold_10 (by decide) (by decide) rfl ?_
    refine X_aload_n (nx := 64) dX8_comesTold_63 rfl rfl rfl ?_
    refine X_aload_n (nx := 65) dX8_comesTold_64 rfl rfl rfl ?_
    refine M_getP (nx := 68) dX8_comesTold_65 rfl fl_RX8_79 rfl (by first | assumption | rfl | decide | omega) (by first | assumption | rfl | decide | omega) (by first | assumption | rfl | decide | omega) ?_
    refine X_iload_n (nx := 69) dX8_comesTold_68 rfl rfl rfl ?_
    refine M_ld (a := 128) (L := 99) (nx := 70) dX8_comesTold_69 rfl (by decide) (by decide) rfl (by decide) (by omega) (ht.2.2.1) ?_
    refine Z_Vi1 (nx := 73) dX8_comesTold_70 rfl ml_RX8_260 kj_X8_comesDrop kv_X8_comesDrop (sp_X8_comesDrop h hV hP rfl (by omega)) (by first | assumption | rfl | decide | omega) (by first | assumption | rfl | decide | omega) (by decide) rfl (by first | decide | omega) (by exact Nat.le_of_ble_eq_true rfl) (fun u70 D70 g70 => ?_)
    have b70 := g70.b
    exact Z_reti dX8_comesTold_73 (Or.inr ⟨rfl, by first | exact Or.inl rfl | exact Or.inr rfl | exact b2i_01 _ | assumption⟩) (by rw [ob_x e]; exact g70)
  · skip
    refine X_top (y := 114) (by rw [e]; rfl) ?_
    refine X_lookup (tgt := 74) (off := 64) dX8_comesTold_10 (by decide) (by decide) rfl ?_
    refine X_aload_n (nx := 75) dX8_comesTold_74 rfl rfl rfl ?_
    refine X_iload_n (nx := 76) dX8_comesTold_75 rfl rfl rfl ?_
    refine X_aload_n (nx := 77) dX8_comesTold_76 rfl rfl rfl ?_
    refine M_getP (nx := 80) dX8_comesTold_77 rfl fl_RX8_79 rfl (by first | assumption | rfl | decide | omega) (by first | assumption | rfl | decide | omega) (by first | assumption | rfl | decide | omega) ?_
    refine X_iload_n (nx := 81) dX8_comesTold_80 rfl rfl rfl ?_
    refine M_ld (a := 128) (L := 99) (nx := 82) dX8_comesTold_81 rfl (by decide) (by decide) rfl (by decide) (by omega) (ht.2.2.1) ?_
    refine X_aload_n (nx := 83) dX8_comesTold_82 rfl rfl rfl ?_
    refine M_getP (nx := 86) dX8_comesTold_83 rfl fl_RX8_79 rfl (by first | assumption | rfl | decide | omega) (by first | assumption | rfl | decide | omega) (by first | assumption | rfl | decide | omega) ?_
    refine X_iload_n (nx := 87) dX8_comesTold_86 rfl rfl rfl ?_
    refine X_iconst (v := nI 1) (nx := 88) dX8_comesTold_87 rfl rfl ?_
    refine X_iadd (nx := 89) dX8_comesTold_88 rfl ?_
    refine X_top (nI_add _ _) ?_
    refine M_ld (a := 128) (L := 99) (nx := 90) dX8_comesTold_89 rfl (by decide) (by decide) rfl (by decide) (by omega) (ht.2.2.2.1 (by omega)) ?_
    refine Z_Vi3 (nx := 93) dX8_comesTold_90 rfl ml_RX8_263 kj_X8_comesRoute kv_X8_comesRoute (sp_X8_comesRoute h hV hP h256 hs33 hN ht hm (by omega) rfl rfl rfl) (by first | assumption | rfl | decide | omega) (by first | assumption | rfl | decide | omega) (by decide) rfl (by first | decide | omega) (by exact Nat.le_of_ble_eq_true rfl) (fun u90 D90 g90 => ?_)
    have b90 := g90.b
    exact Z_reti dX8_comesTold_93 (Or.inr ⟨rfl, by first | exact Or.inl rfl | exact Or.inr rfl | exact b2i_01 _ | assumption⟩) g90
  · skip
    refine X_top (y := 109) (by rw [e]; rfl) ?_
    refine X_lookup (tgt := 74) (off := 64) dX8_comesTold_10 (by decide) (by decide) rfl ?_
    refine X_aload_n (nx := 75) dX8_comesTold_74 rfl rfl rfl ?_
    refine X_iload_n (nx := 76) dX8_comesTold_75 rfl rfl rfl ?_
    refine X_aload_n (nx := 77) dX8_comesTold_76 rfl rfl rfl ?_
    refine M_getP (nx := 80) dX8_comesTold_77 rfl fl_RX8_79 rfl (by first | assumption | rfl | decide | omega) (by first | assumption | rfl | decide | omega) (by first | assumption | rfl | decide | omega) ?_
    refine X_iload_n (nx := 81) dX8_comesTold_80 rfl rfl rfl ?_
    refine M_ld (a := 128) (L := 99) (nx := 82) dX8_comesTold_81 rfl (by decide) (by decide) rfl (by decide) (by omega) (ht.2.2.1) ?_
    refine X_aload_n (nx := 83) dX8_comesTold_82 rfl rfl rfl ?_
    refine M_getP (nx := 86) dX8_comesTold_83 rfl fl_RX8_79 rfl (by first | assumption | rfl | decide | omega) (by first | assumption | rfl | decide | omega) (by first | assumption | rfl | decide | omega) ?_
    refine X_iload_n (nx := 87) dX8_comesTold_86 rfl rfl rfl ?_
    refine X_iconst (v := nI 1) (nx := 88) dX8_comesTold_87 rfl rfl ?_
    refine X_iadd (nx := 89) dX8_comesTold_88 rfl ?_
    refine X_top (nI_add _ _) ?_
    refine M_ld (a := 128) (L := 99) (nx := 90) dX8_comesTold_89 rfl (by decide) (by decide) rfl (by decide) (by omega) (ht.2.2.2.1 (by omega)) ?_
    refine Z_Vi3 (nx := 93) dX8_comesTold_90 rfl ml_RX8_263 kj_X8_comesRoute kv_X8_comesRoute (sp_X8_comesRoute h hV hP h256 hs33 hN ht hm (by omega) rfl rfl rfl) (by first | assumption | rfl | decide | omega) (by first | assumption | rfl | decide | omega) (by decide) rfl (by first | decide | omega) (by exact Nat.le_of_ble_eq_true rfl) (fun u90 D90 g90 => ?_)
    have b90 := g90.b
    exact Z_reti dX8_comesTold_93 (Or.inr ⟨rfl, by first | exact Or.inl rfl | exact Or.inr rfl | exact b2i_01 _ | assumption⟩) g90
