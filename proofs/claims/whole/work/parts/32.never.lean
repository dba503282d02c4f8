/-! NEVER, ROWS, BEST -/
def nvE (S : St) (v p r : Nat) : Bool := decide (ME S v p = some r ∧ avI (bk S) r = nI v)
def nvD (S : St) (v p r : Nat) : Bool := anyN (fun v2 => anyN (fun p2 => nvE S v2 p2 r) 341) v || anyN (fun p2 => nvE S v p2 r) p
def nvB (S : St) (v p r : Nat) : Bool := (thN (bk S) r && !mtB (bk S) r) && !nvD S v p r
def m_never (S : St) : Int32 × St := (nI (mkn (nvB S 3 0) 10), S)
theorem nv_s {S : St} {v p r : Nat} : nvB S v (p + 1) r = (nvB S v p r && !nvE S v p r) := by
  have e : ∀ t m a b c : Bool, (t && !m && !(a || (b || c))) = ((t && !m && !(a || b)) && !c) := by decide
  exact e _ _ _ _ _
theorem nv_v {S : St} {v r : Nat} : nvB S (v + 1) 0 r = nvB S v 341 r := by
  unfold nvB nvD
  rw [show anyN (fun p2 => nvE S (v + 1) p2 r) 0 = false from rfl, Bool.or_false]
  rfl
theorem nv_0 {S : St} {r : Nat} : nvB S 0 0 r = (thN (bk S) r && !mtB (bk S) r) := by
  unfold nvB nvD
  exact Bool.and_true _
theorem andnot (p q : Nat → Bool) : nI (mkn p 10) &&& (nI (mkn q 10) ^^^ -1) = nI (mkn (fun i => p i && !q i) 10) := by
  apply Int32.toBitVec_inj.mp
  show BitVec.ofNat 32 (mkn p 10) &&& (BitVec.ofNat 32 (mkn q 10) ^^^ BitVec.allOnes 32) = BitVec.ofNat 32 (mkn (fun i => p i && !q i) 10)
  apply BitVec.eq_of_getLsbD_eq
  intro i hi
  rw [BitVec.getLsbD_and, BitVec.getLsbD_xor, BitVec.getLsbD_ofNat, BitVec.getLsbD_ofNat, BitVec.getLsbD_ofNat, BitVec.getLsbD_allOnes, mkn_tb, mkn_tb, mkn_tb, decide_eq_true hi]
  cases decide (i < 10) <;> cases p i <;> cases q i <;> rfl
theorem nv_no {S : St} {v p : Nat} (h : ∀ r, nvE S v p r = false) : mkn (nvB S v p) 10 = mkn (nvB S v (p + 1)) 10 := mkn_congr (fun r _ => by rw [nv_s, h r]; exact (Bool.and_true _).symm)
theorem nv_yes {S : St} {v p e : Nat} (h : ME S v p = some e) (h2 : avI (bk S) e = nI v) : mkn (fun i => nvB S v p i && !decide (i = e)) 10 = mkn (nvB S v (p + 1)) 10 := mkn_congr (fun r _ => by
  rw [nv_s]
  congr 2
  unfold nvE
  refine decide_eq_decide.mpr ⟨fun q => by subst q; exact ⟨h, h2⟩, fun q => ?_⟩
  rw [h] at q
  exact (Option.some.inj q.1).symm)
theorem brg_hit {D D' : Mem} {S : St} {v p : Nat} {u : Int32} (g : BRG D S (kd_ (bk S)) (fg_ (bk S)) (wS S) v p u D') (hu : ¬ u < 0) : ∃ e, e < cm_ (bk S) ∧ u = nI e ∧ ME S v p = some e ∧ e < 10 := by
  have h1 := brg_yes g hu
  obtain ⟨e, he⟩ := Option.isSome_iff_exists.mp h1
  exact ⟨e, (SVf_th (mtE_end he).2).2.2, by rw [g.2.2.2.1, he]; rfl, he, g.lt he⟩
theorem dX7_never_0 : decode cX7_never 0 = .ok (.aload_n 0, 1) := by decide +kernel
theorem dX7_never_1 : decode cX7_never 1 = .ok (.getfield 10, 3) := by decide +kernel
theorem dX7_never_4 : decode cX7_never 4 = .ok (.invokevirtual 125, 3) := by decide +kernel
theorem dX7_never_7 : decode cX7_never 7 = .ok (.istore_n 1, 1) := by decide +kernel
theorem dX7_never_8 : decode cX7_never 8 = .ok (.iload_n 1, 1) := by decide +kernel
theorem dX7_never_9 : decode cX7_never 9 = .ok (.aload_n 0, 1) := by decide +kernel
theorem dX7_never_10 : decode cX7_never 10 = .ok (.getfield 10, 3) := by decide +kernel
theorem dX7_never_13 : decode cX7_never 13 = .ok (.invokevirtual 203, 3) := by decide +kernel
theorem dX7_never_16 : decode cX7_never 16 = .ok (.iconst (-1), 1) := by decide +kernel
theorem dX7_never_17 : decode cX7_never 17 = .ok (.ixor, 1) := by decide +kernel
theorem dX7_never_18 : decode cX7_never 18 = .ok (.iand, 1) := by decide +kernel
theorem dX7_never_19 : decode cX7_never 19 = .ok (.istore_n 2, 1) := by decide +kernel
theorem dX7_never_20 : decode cX7_never 20 = .ok (.iconst 0, 1) := by decide +kernel
theorem dX7_never_21 : decode cX7_never 21 = .ok (.istore_n 3, 1) := by decide +kernel
theorem dX7_never_22 : decode cX7_never 22 = .ok (.iload_n 3, 1) := by decide +kernel
theorem dX7_never_23 : decode cX7_never 23 = .ok (.iconst 2, 1) := by decide +kernel
theorem dX7_never_24 : decode cX7_never 24 = .ok (.if_icmp .gt 63, 3) := by decide +kernel
theorem dX7_never_27 : decode cX7_never 27 = .ok (.iconst 0, 1) := by decide +kernel
theorem dX7_never_28 : decode cX7_never 28 = .ok (.istore 4, 2) := by decide +kernel
theorem dX7_never_30 : decode cX7_never 30 = .ok (.iload 4, 2) := by decide +kernel
theorem dX7_never_32 : decode cX7_never 32 = .ok (.sipush 341, 3) := by decide +kernel
theorem dX7_never_35 : decode cX7_never 35 = .ok (.if_icmp .ge 46, 3) := by decide +kernel
theorem dX7_never_38 : decode cX7_never 38 = .ok (.aload_n 0, 1) := by decide +kernel
theorem dX7_never_39 : decode cX7_never 39 = .ok (.getfield 25, 3) := by decide +kernel
theorem dX7_never_42 : decode cX7_never 42 = .ok (.iload 4, 2) := by decide +kernel
theorem dX7_never_44 : decode cX7_never 44 = .ok (.iload_n 3, 1) := by decide +kernel
theorem dX7_never_45 : decode cX7_never 45 = .ok (.iload_n 1, 1) := by decide +kernel
theorem dX7_never_46 : decode cX7_never 46 = .ok (.invokevirtual 180, 3) := by decide +kernel
theorem dX7_never_49 : decode cX7_never 49 = .ok (.istore 5, 2) := by decide +kernel
theorem dX7_never_51 : decode cX7_never 51 = .ok (.iload 5, 2) := by decide +kernel
theorem dX7_never_53 : decode cX7_never 53 = .ok (.ifCond .lt 22, 3) := by decide +kernel
theorem dX7_never_56 : decode cX7_never 56 = .ok (.aload_n 0, 1) := by decide +kernel
theorem dX7_never_57 : decode cX7_never 57 = .ok (.iload 5, 2) := by decide +kernel
theorem dX7_never_59 : decode cX7_never 59 = .ok (.invokevirtual 200, 3) := by decide +kernel
theorem dX7_never_62 : decode cX7_never 62 = .ok (.iload_n 3, 1) := by decide +kernel
theorem dX7_never_63 : decode cX7_never 63 = .ok (.if_icmp .ne 12, 3) := by decide +kernel
theorem dX7_never_66 : decode cX7_never 66 = .ok (.iload_n 2, 1) := by decide +kernel
theorem dX7_never_67 : decode cX7_never 67 = .ok (.iconst 1, 1) := by decide +kernel
theorem dX7_never_68 : decode cX7_never 68 = .ok (.iload 5, 2) := by decide +kernel
theorem dX7_never_70 : decode cX7_never 70 = .ok (.ishl, 1) := by decide +kernel
theorem dX7_never_71 : decode cX7_never 71 = .ok (.iconst (-1), 1) := by decide +kernel
theorem dX7_never_72 : decode cX7_never 72 = .ok (.ixor, 1) := by decide +kernel
theorem dX7_never_73 : decode cX7_never 73 = .ok (.iand, 1) := by decide +kernel
theorem dX7_never_74 : decode cX7_never 74 = .ok (.istore_n 2, 1) := by decide +kernel
theorem dX7_never_75 : decode cX7_never 75 = .ok (.iinc 4 1, 3) := by decide +kernel
theorem dX7_never_78 : decode cX7_never 78 = .ok (.goto (-48), 3) := by decide +kernel
theorem dX7_never_81 : decode cX7_never 81 = .ok (.iinc 3 1, 3) := by decide +kernel
theorem dX7_never_84 : decode cX7_never 84 = .ok (.goto (-62), 3) := by decide +kernel
theorem dX7_never_87 : decode cX7_never 87 = .ok (.iload_n 2, 1) := by decide +kernel
theorem dX7_never_88 : decode cX7_never 88 = .ok (.ireturn, 1) := by decide +kernel
theorem X_fg6 {d k pc : Nat} {j : MI} {a b c d0 e o : Option Value} {st : List Value} {σ : Wd} {Q : List Value → Wd → Prop} (hX : X d k j pc [a, b, c, d0, e, none] st σ Q) : X d k j pc [a, b, c, d0, e, o] st σ Q := X_fg5 hX
theorem X_fg62 {d k pc : Nat} {j : MI} {a b c d0 o1 o2 : Option Value} {st : List Value} {σ : Wd} {Q : List Value → Wd → Prop} (hX : X d k j pc [a, b, c, d0, none, none] st σ Q) : X d k j pc [a, b, c, d0, o1, o2] st σ Q := by
  refine X_forget (fun i v h => ?_) hX
  match i, h with
  | 0, h => exact h
  | 1, h => exact h
  | 2, h => exact h
  | 3, h => exact h
  | 4, h => cases h
  | 5, h => cases h
  | n + 6, h => cases h
theorem lp_never_in {S : St} {D : Mem} {v : Nat} (hv : v < 3) {Q : List Value → Wd → Prop} (hQ : ∀ (D1 : Mem) (y : Option Value), INV1 D1 S → Fr inC D D1 → X 21 138 j_X7_never 81 [some (.ref 0), some (.int (nI (wS S))), some (.int (nI (mkn (nvB S v 341) 10))), some (.int (nI v)), some (.int (nI 341)), y] [] (138, P0, D1) Q) : ∀ (m : Nat) (i : Nat) (D1 : Mem) (y : Option Value), i + m = 341 → INV1 D1 S → Fr inC D D1 → X 21 138 j_X7_never 30 [some (.ref 0), some (.int (nI (wS S))), some (.int (nI (mkn (nvB S v i) 10))), some (.int (nI v)), some (.int (nI i)), y] [] (138, P0, D1) (Q) := by
  intro m
  induction m with
  | zero =>
    intro i D1 y hi h hf
    refine X_iload (nx := 32) dX7_never_30 rfl rfl ?_
    refine X_sipush (v := nI 341) (nx := 35) dX7_never_32 rfl rfl ?_
    refine X_icmp_ge (tgt := 81) (nx := 38) dX7_never_35 rfl rfl (fun h35 => ?_) (fun h35 => ?_)
    · skip
      (obtain rfl : i = 341 := (by omega)); exact hQ D1 y h hf
    · exact absurd h35 (fun q => q (nI_le (by omega) (by omega)))
  | succ m ih =>
    intro i D1 y hi h hf
    refine X_iload (nx := 32) dX7_never_30 rfl rfl ?_
    refine X_sipush (v := nI 341) (nx := 35) dX7_never_32 rfl rfl ?_
    refine X_icmp_ge (tgt := 81) (nx := 38) dX7_never_35 rfl rfl (fun h35 => ?_) (fun h35 => ?_)
    · exact absurd h35 (nI_ge (by omega) (by omega))
    · skip
      refine X_aload_n (nx := 39) dX7_never_38 rfl rfl rfl ?_
      refine M_getP (nx := 42) dX7_never_39 rfl fl_RX7_25 rfl (by first | assumption | rfl | decide | omega) (by first | assumption | rfl | decide | omega) (by first | assumption | rfl | decide | omega) ?_
      refine X_iload (nx := 44) dX7_never_42 rfl rfl ?_
      refine X_iload_n (nx := 45) dX7_never_44 rfl rfl rfl ?_
      refine X_iload_n (nx := 46) dX7_never_45 rfl rfl rfl ?_
      refine Z_Vi3 (nx := 49) dX7_never_46 rfl ml_RX7_180 kj_X6_bring kv_X6_bring (sp_X6_bring h rfl (by omega) rfl (by omega) rfl (wS_lt S)) (by first | assumption | rfl | decide | omega) (by first | assumption | rfl | decide | omega) (by decide) rfl (by first | decide | omega) (by exact Nat.le_of_ble_eq_true rfl) (fun u46 D46 g46 => ?_)
      refine X_istore (i := 5) (nx := 51) dX7_never_49 rfl (by decide) rfl (st_s (st_s (st_s (st_s (st_s (st_0)))))) ?_
      refine X_iload (nx := 53) dX7_never_51 rfl rfl ?_
      refine X_if_lt (tgt := 75) (nx := 56) dX7_never_53 rfl rfl (fun h53 => ?_) (fun h53 => ?_)
      · skip
        have hz := nv_no (S := S) (v := v) (p := i) (fun r => decide_eq_false (fun q => by have e0 := brg_no g46 h53; have e1 := q.1; unfold ME at e1; rw [e1] at e0; cases e0))
        rw [hz]
        refine X_iinc (nx := 78) dX7_never_75 rfl (by decide) rfl (by first | exact ii1 _ | rfl) rfl (st_s (st_s (st_s (st_s (st_0))))) ?_
        refine X_goto (tgt := 30) dX7_never_78 rfl ?_
        exact ih (i + 1) D46 _ (by omega) g46.1 (hf.tr g46.2.1.sc)
      · skip
        obtain ⟨e, he1, he2, he3, he4⟩ := brg_hit g46 h53
        subst he2
        refine X_aload_n (nx := 57) dX7_never_56 rfl rfl rfl ?_
        refine X_iload (nx := 59) dX7_never_57 rfl rfl ?_
        refine Y_Vi1 (nx := 62) dX7_never_59 rfl ml_RX7_200 kj_X7_askedVerb kv_X7_askedVerb (sp_X7_askedVerb g46.1 rfl he1) (by first | assumption | rfl | decide | omega) (by first | assumption | rfl | decide | omega) (by decide) rfl (by first | decide | omega) (by exact Nat.le_of_ble_eq_true rfl) ?_
        refine X_iload_n (nx := 63) dX7_never_62 rfl rfl rfl ?_
        refine X_icmp_ne (tgt := 75) (nx := 66) dX7_never_63 rfl rfl (fun h63 => ?_) (fun h63 => ?_)
        · skip
          have hz := nv_no (S := S) (v := v) (p := i) (fun r => decide_eq_false (fun q => by have e1 := q.1; rw [he3] at e1; cases e1; exact h63 q.2))
          rw [hz]
          refine X_iinc (nx := 78) dX7_never_75 rfl (by decide) rfl (by first | exact ii1 _ | rfl) rfl (st_s (st_s (st_s (st_s (st_0))))) ?_
          refine X_goto (tgt := 30) dX7_never_78 rfl ?_
          exact ih (i + 1) D46 _ (by omega) g46.1 (hf.tr g46.2.1.sc)
        · skip
          have hz := nv_yes (S := S) (v := v) (p := i) he3 h63
          refine X_iload_n (nx := 67) dX7_never_66 rfl rfl rfl ?_
          refine X_iconst (v := 1) (nx := 68) dX7_never_67 rfl rfl ?_
          refine X_iload (nx := 70) dX7_never_68 rfl rfl ?_
          refine X_ishl (nx := 71) dX7_never_70 rfl ?_
          refine X_iconst (v := -1) (nx := 72) dX7_never_71 rfl rfl ?_
          refine X_ixor (nx := 73) dX7_never_72 rfl ?_
          refine X_iand (nx := 74) dX7_never_73 rfl ?_
          refine X_top ((wo_eq (p := nvB S v i) he4).trans (congrArg nI hz)) ?_
          refine X_istore_n (i := 2) (nx := 75) dX7_never_74 rfl rfl (by decide) rfl (st_s (st_s (st_0))) ?_
          refine X_iinc (nx := 78) dX7_never_75 rfl (by decide) rfl (by first | exact ii1 _ | rfl) rfl (st_s (st_s (st_s (st_s (st_0))))) ?_
          refine X_goto (tgt := 30) dX7_never_78 rfl ?_
          exact ih (i + 1) D46 _ (by omega) g46.1 (hf.tr g46.2.1.sc)
theorem lp_never_out {S : St} {D : Mem} : ∀ (m : Nat) (v : Nat) (D1 : Mem), v + m = 3 → INV1 D1 S → Fr inC D D1 → X 21 138 j_X7_never 22 [some (.ref 0), some (.int (nI (wS S))), some (.int (nI (mkn (nvB S v 0) 10))), some (.int (nI v)), none, none] [] (138, P0, D1) (fun x σ => ∃ (u : Int32) (D' : Mem), x = [.int u] ∧ σ = wd D' ∧ CK D (m_never S) u D') := by
  intro m
  induction m with
  | zero =>
    intro v D1 hi h hf
    refine X_iload_n (nx := 23) dX7_never_22 rfl rfl rfl ?_
    refine X_iconst (v := nI 2) (nx := 24) dX7_never_23 rfl rfl ?_
    refine X_icmp_gt (tgt := 87) (nx := 27) dX7_never_24 rfl rfl (fun h24 => ?_) (fun h24 => ?_)
    · skip
      refine X_iload_n (nx := 88) dX7_never_87 rfl rfl rfl ?_
      exact Z_reti dX7_never_88 (Or.inl rfl) (by obtain rfl : v = 3 := (by omega); exact ck_s rfl h hf)
    · exact absurd h24 (fun q => q (nI_lt (by omega) (by omega)))
  | succ m ih =>
    intro v D1 hi h hf
    refine X_iload_n (nx := 23) dX7_never_22 rfl rfl rfl ?_
    refine X_iconst (v := nI 2) (nx := 24) dX7_never_23 rfl rfl ?_
    refine X_icmp_gt (tgt := 87) (nx := 27) dX7_never_24 rfl rfl (fun h24 => ?_) (fun h24 => ?_)
    · exact absurd h24 (fun q => absurd ((nI_ltI (by omega) (by omega)).mp q) (by omega))
    · skip
      refine X_iconst (v := nI 0) (nx := 28) dX7_never_27 rfl rfl ?_
      refine X_istore (i := 4) (nx := 30) dX7_never_28 rfl (by decide) rfl (st_s (st_s (st_s (st_s (st_0))))) ?_
      refine lp_never_in (D := D) (by omega) (fun D2 y h2 hf2 => ?_) 341 0 D1 none rfl h hf
      refine X_iinc (nx := 84) dX7_never_81 rfl (by decide) rfl (by first | exact ii1 _ | rfl) rfl (st_s (st_s (st_s (st_0)))) ?_
      refine X_goto (tgt := 22) dX7_never_84 rfl ?_
      rw [← mkn_congr (fun r _ => nv_v (S := S) (v := v) (r := r))]
      refine X_fg62 ?_
      exact ih (v + 1) D2 (by omega) h2 hf2
theorem sp_X7_never {S : St} {D : Mem} (h : INV1 D S) : Rix 21 j_X7_never [.ref 0] D (fun u D' => CK D (m_never S) u D') := by
  refine E.start 5 (ls := [some (.ref 0), none, none, none, none, none]) (by decide +kernel) (Nat.le_of_ble_eq_true rfl) rfl (Nat.le_refl _) (Nat.le_refl _) ?_
  have hcm := h.1.2.1.2.1
  refine X_aload_n (nx := 1) dX7_never_0 rfl rfl rfl ?_
  refine M_getP (nx := 4) dX7_never_1 rfl fl_RX7_10 rfl (by first | assumption | rfl | decide | omega) (by first | assumption | rfl | decide | omega) (by first | assumption | rfl | decide | omega) ?_
  refine Y_Vi0 (nx := 7) dX7_never_4 rfl ml_RX7_125 kj_X0_thereBits kv_X0_thereBits (sp_X0_thereBits (Or.inl rfl) h.1.1) (by first | assumption | rfl | decide | omega) (by first | assumption | rfl | decide | omega) (by decide) rfl (by first | decide | omega) (by exact Nat.le_of_ble_eq_true rfl) ?_
  refine X_istore_n (i := 1) (nx := 8) dX7_never_7 rfl rfl (by decide) rfl (st_s (st_0)) ?_
  refine X_iload_n (nx := 9) dX7_never_8 rfl rfl rfl ?_
  refine X_aload_n (nx := 10) dX7_never_9 rfl rfl rfl ?_
  refine M_getP (nx := 13) dX7_never_10 rfl fl_RX7_10 rfl (by first | assumption | rfl | decide | omega) (by first | assumption | rfl | decide | omega) (by first | assumption | rfl | decide | omega) ?_
  refine Y_Vi0 (nx := 16) dX7_never_13 rfl ml_RX7_203 kj_X0_mountBits kv_X0_mountBits (sp_X0_mountBits (Or.inl rfl) h.1.1) (by first | assumption | rfl | decide | omega) (by first | assumption | rfl | decide | omega) (by decide) rfl (by first | decide | omega) (by exact Nat.le_of_ble_eq_true rfl) ?_
  refine X_iconst (v := -1) (nx := 17) dX7_never_16 rfl rfl ?_
  refine X_ixor (nx := 18) dX7_never_17 rfl ?_
  refine X_iand (nx := 19) dX7_never_18 rfl ?_
  refine X_top (show _ = nI (mkn (nvB S 0 0) 10) from (andnot _ _).trans (congrArg nI (mkn_congr (fun r _ => by rw [nv_0]; cases thN (bk S) r <;> cases mtB (bk S) r <;> rfl)))) ?_
  refine X_istore_n (i := 2) (nx := 20) dX7_never_19 rfl rfl (by decide) rfl (st_s (st_s (st_0))) ?_
  refine X_iconst (v := nI 0) (nx := 21) dX7_never_20 rfl rfl ?_
  refine X_istore_n (i := 3) (nx := 22) dX7_never_21 rfl rfl (by decide) rfl (st_s (st_s (st_s (st_0)))) ?_
  exact lp_never_out 3 0 D rfl h Fr.rf
/-! rows -/
def rwN (o : Option Nat) : Nat := match o with
  | none => 99
  | some e => e
def wrg (S : St) (K F : Nat → Nat) (v p : Nat) : Bool := decide ((rw_ S).getD p 0 ≠ rwN (mtE (bk S) (wS S) v p K F))
def fns (S : St) (K F : Nat → Nat) (v : Nat) : Option Nat := fst_ (wrg S K F v) 0 (rw_ S).length
theorem rwn_n {D D' : Mem} {S : St} {K F : Nat → Nat} {w v p : Nat} {u : Int32} (g : BRG D S K F w v p u D') (hu : ¬ 0 ≤ u) : (99 : Int32) = nI (rwN (mtE (bk S) w v p K F)) := by
  have := brg_no g (Int32.not_le.mp hu)
  rw [Option.isSome_eq_false_iff.mp this |> Option.isNone_iff_eq_none.mp]; rfl
theorem rwn_s {D D' : Mem} {S : St} {K F : Nat → Nat} {w v p : Nat} {u : Int32} (g : BRG D S K F w v p u D') (hu : 0 ≤ u) : u = nI (rwN (mtE (bk S) w v p K F)) := by
  obtain ⟨e, he⟩ := Option.isSome_iff_exists.mp (brg_yes g (Int32.not_lt.mpr hu))
  rw [g.2.2.2.1, he]; rfl
theorem rwn_lt {D D' : Mem} {S : St} {K F : Nat → Nat} {w v p : Nat} {u : Int32} (g : BRG D S K F w v p u D') : rwN (mtE (bk S) w v p K F) < 100 := by
  cases hm : mtE (bk S) w v p K F with
  | none => decide
  | some k => have := g.lt hm; show k < 100; omega
theorem dX7_firstNotSo_0 : decode cX7_firstNotSo 0 = .ok (.aload_n 0, 1) := by decide +kernel
theorem dX7_firstNotSo_1 : decode cX7_firstNotSo 1 = .ok (.getfield 10, 3) := by decide +kernel
theorem dX7_firstNotSo_4 : decode cX7_firstNotSo 4 = .ok (.invokevirtual 125, 3) := by decide +kernel
theorem dX7_firstNotSo_7 : decode cX7_firstNotSo 7 = .ok (.istore_n 2, 1) := by decide +kernel
theorem dX7_firstNotSo_8 : decode cX7_firstNotSo 8 = .ok (.iconst 0, 1) := by decide +kernel
theorem dX7_firstNotSo_9 : decode cX7_firstNotSo 9 = .ok (.istore_n 3, 1) := by decide +kernel
theorem dX7_firstNotSo_10 : decode cX7_firstNotSo 10 = .ok (.iload_n 3, 1) := by decide +kernel
theorem dX7_firstNotSo_11 : decode cX7_firstNotSo 11 = .ok (.aload_n 0, 1) := by decide +kernel
theorem dX7_firstNotSo_12 : decode cX7_firstNotSo 12 = .ok (.getfield 38, 3) := by decide +kernel
theorem dX7_firstNotSo_15 : decode cX7_firstNotSo 15 = .ok (.getfield 62, 3) := by decide +kernel
theorem dX7_firstNotSo_18 : decode cX7_firstNotSo 18 = .ok (.if_icmp .ge 46, 3) := by decide +kernel
theorem dX7_firstNotSo_21 : decode cX7_firstNotSo 21 = .ok (.aload_n 0, 1) := by decide +kernel
theorem dX7_firstNotSo_22 : decode cX7_firstNotSo 22 = .ok (.getfield 25, 3) := by decide +kernel
theorem dX7_firstNotSo_25 : decode cX7_firstNotSo 25 = .ok (.iload_n 3, 1) := by decide +kernel
theorem dX7_firstNotSo_26 : decode cX7_firstNotSo 26 = .ok (.iload_n 1, 1) := by decide +kernel
theorem dX7_firstNotSo_27 : decode cX7_firstNotSo 27 = .ok (.iload_n 2, 1) := by decide +kernel
theorem dX7_firstNotSo_28 : decode cX7_firstNotSo 28 = .ok (.invokevirtual 180, 3) := by decide +kernel
theorem dX7_firstNotSo_31 : decode cX7_firstNotSo 31 = .ok (.istore 4, 2) := by decide +kernel
theorem dX7_firstNotSo_33 : decode cX7_firstNotSo 33 = .ok (.aload_n 0, 1) := by decide +kernel
theorem dX7_firstNotSo_34 : decode cX7_firstNotSo 34 = .ok (.getfield 38, 3) := by decide +kernel
theorem dX7_firstNotSo_37 : decode cX7_firstNotSo 37 = .ok (.iload_n 3, 1) := by decide +kernel
theorem dX7_firstNotSo_38 : decode cX7_firstNotSo 38 = .ok (.invokevirtual 178, 3) := by decide +kernel
theorem dX7_firstNotSo_41 : decode cX7_firstNotSo 41 = .ok (.iload 4, 2) := by decide +kernel
theorem dX7_firstNotSo_43 : decode cX7_firstNotSo 43 = .ok (.ifCond .ge 8, 3) := by decide +kernel
theorem dX7_firstNotSo_46 : decode cX7_firstNotSo 46 = .ok (.bipush 99, 2) := by decide +kernel
theorem dX7_firstNotSo_48 : decode cX7_firstNotSo 48 = .ok (.goto 5, 3) := by decide +kernel
theorem dX7_firstNotSo_51 : decode cX7_firstNotSo 51 = .ok (.iload 4, 2) := by decide +kernel
theorem dX7_firstNotSo_53 : decode cX7_firstNotSo 53 = .ok (.if_icmp .eq 5, 3) := by decide +kernel
theorem dX7_firstNotSo_56 : decode cX7_firstNotSo 56 = .ok (.iload_n 3, 1) := by decide +kernel
theorem dX7_firstNotSo_57 : decode cX7_firstNotSo 57 = .ok (.ireturn, 1) := by decide +kernel
theorem dX7_firstNotSo_58 : decode cX7_firstNotSo 58 = .ok (.iinc 3 1, 3) := by decide +kernel
theorem dX7_firstNotSo_61 : decode cX7_firstNotSo 61 = .ok (.goto (-51), 3) := by decide +kernel
theorem dX7_firstNotSo_64 : decode cX7_firstNotSo 64 = .ok (.bipush (-9), 2) := by decide +kernel
theorem dX7_firstNotSo_66 : decode cX7_firstNotSo 66 = .ok (.ireturn, 1) := by decide +kernel
theorem lp_fns {S : St} {K F : Nat → Nat} {D : Mem} {v : Nat} (hv : v < 4) : ∀ (m : Nat) (i : Nat) (D1 : Mem) (y : Option Value), i + m = (rw_ S).length → INVK D1 S K F → Fr inS D D1 → X 21 138 j_X7_firstNotSo 10 [some (.ref 0), some (.int (nI v)), some (.int (nI (wS S))), some (.int (nI i)), y] [] (138, P0, D1) (fun x σ => ∃ (u : Int32) (D' : Mem), x = [.int u] ∧ σ = wd D' ∧ (u = opI (fst_ (wrg S K F v) i m) ∧ INVK D' S K F ∧ Fr inS D D')) := by
  intro m
  induction m with
  | zero =>
    intro i D1 y hi h hf
    have hl : (rw_ S).length ≤ 30 := h.2.1.2.2.1.1
    refine X_iload_n (nx := 11) dX7_firstNotSo_10 rfl rfl rfl ?_
    refine X_aload_n (nx := 12) dX7_firstNotSo_11 rfl rfl rfl ?_
    refine M_getP (nx := 15) dX7_firstNotSo_12 rfl fl_RX7_38 rfl (by first | assumption | rfl | decide | omega) (by first | assumption | rfl | decide | omega) (by first | assumption | rfl | decide | omega) ?_
    refine M_getI (nx := 18) dX7_firstNotSo_15 rfl fl_RX7_62 rfl (by first | assumption | rfl | decide | omega) (by first | assumption | rfl | decide | omega) ?_
    refine X_top (h.2.1.2.2.1.2.1) ?_
    refine X_icmp_ge (tgt := 64) (nx := 21) dX7_firstNotSo_18 rfl rfl (fun h18 => ?_) (fun h18 => ?_)
    · skip
      refine X_bipush (v := -9) (nx := 66) dX7_firstNotSo_64 rfl rfl ?_
      exact Z_reti dX7_firstNotSo_66 (Or.inl rfl) (⟨rfl, h, hf⟩)
    · exact absurd h18 (fun q => q (nI_le (by omega) (by omega)))
  | succ m ih =>
    intro i D1 y hi h hf
    have hl : (rw_ S).length ≤ 30 := h.2.1.2.2.1.1
    refine X_iload_n (nx := 11) dX7_firstNotSo_10 rfl rfl rfl ?_
    refine X_aload_n (nx := 12) dX7_firstNotSo_11 rfl rfl rfl ?_
    refine M_getP (nx := 15) dX7_firstNotSo_12 rfl fl_RX7_38 rfl (by first | assumption | rfl | decide | omega) (by first | assumption | rfl | decide | omega) (by first | assumption | rfl | decide | omega) ?_
    refine M_getI (nx := 18) dX7_firstNotSo_15 rfl fl_RX7_62 rfl (by first | assumption | rfl | decide | omega) (by first | assumption | rfl | decide | omega) ?_
    refine X_top (h.2.1.2.2.1.2.1) ?_
    refine X_icmp_ge (tgt := 64) (nx := 21) dX7_firstNotSo_18 rfl rfl (fun h18 => ?_) (fun h18 => ?_)
    · exact absurd h18 (nI_ge (by omega) (by omega))
    · skip
      refine X_aload_n (nx := 22) dX7_firstNotSo_21 rfl rfl rfl ?_
      refine M_getP (nx := 25) dX7_firstNotSo_22 rfl fl_RX7_25 rfl (by first | assumption | rfl | decide | omega) (by first | assumption | rfl | decide | omega) (by first | assumption | rfl | decide | omega) ?_
      refine X_iload_n (nx := 26) dX7_firstNotSo_25 rfl rfl rfl ?_
      refine X_iload_n (nx := 27) dX7_firstNotSo_26 rfl rfl rfl ?_
      refine X_iload_n (nx := 28) dX7_firstNotSo_27 rfl rfl rfl ?_
      refine Z_Vi3 (nx := 31) dX7_firstNotSo_28 rfl ml_RX7_180 kj_X6_bring kv_X6_bring (sp_X6_bring h rfl (by omega) rfl hv rfl (wS_lt S)) (by first | assumption | rfl | decide | omega) (by first | assumption | rfl | decide | omega) (by decide) rfl (by first | decide | omega) (by exact Nat.le_of_ble_eq_true rfl) (fun u28 D28 g28 => ?_)
      refine X_istore (i := 4) (nx := 33) dX7_firstNotSo_31 rfl (by decide) rfl (st_s (st_s (st_s (st_s (st_0))))) ?_
      refine X_aload_n (nx := 34) dX7_firstNotSo_33 rfl rfl rfl ?_
      refine M_getP (nx := 37) dX7_firstNotSo_34 rfl fl_RX7_38 rfl (by first | assumption | rfl | decide | omega) (by first | assumption | rfl | decide | omega) (by first | assumption | rfl | decide | omega) ?_
      refine X_iload_n (nx := 38) dX7_firstNotSo_37 rfl rfl rfl ?_
      refine Y_Vi1 (nx := 41) dX7_firstNotSo_38 rfl ml_RX7_178 kj_X2_at kv_X2_at (sp_X2_at (Or.inr (Or.inl rfl)) g28.1.2.1.2.2.1 rfl (by omega)) (by first | assumption | rfl | decide | omega) (by first | assumption | rfl | decide | omega) (by decide) rfl (by first | decide | omega) (by exact Nat.le_of_ble_eq_true rfl) ?_
      have hb1 := g28.1.2.1.2.2.2.2.2 _ (getD_in (show i < (rw_ S).length by omega))
      have hb2 := rwn_lt g28
      refine X_iload (nx := 43) dX7_firstNotSo_41 rfl rfl ?_
      refine X_if_ge (tgt := 51) (nx := 46) dX7_firstNotSo_43 rfl rfl (fun h43 => ?_) (fun h43 => ?_)
      · skip
        refine X_iload (nx := 53) dX7_firstNotSo_51 rfl rfl ?_
        refine X_top (rwn_s g28 h43) ?_
        refine X_icmp_eq (tgt := 58) (nx := 56) dX7_firstNotSo_53 rfl rfl (fun h53 => ?_) (fun h53 => ?_)
        · skip
          rw [nI_eq (by omega) (by omega)] at h53
          refine X_iinc (nx := 61) dX7_firstNotSo_58 rfl (by decide) rfl (by first | exact ii1 _ | rfl) rfl (st_s (st_s (st_s (st_0)))) ?_
          refine X_goto (tgt := 10) dX7_firstNotSo_61 rfl ?_
          rw [fst_step (p := wrg S K F v) (decide_eq_false (fun q => q h53))]
          exact ih (i + 1) D28 _ (by omega) g28.1 (hf.tr g28.2.1)
        · skip
          rw [nI_eq (by omega) (by omega)] at h53
          refine X_iload_n (nx := 57) dX7_firstNotSo_56 rfl rfl rfl ?_
          exact Z_reti dX7_firstNotSo_57 (Or.inl rfl) (⟨by rw [fst_hit (p := wrg S K F v) (decide_eq_true h53)]; rfl, g28.1, hf.tr g28.2.1⟩)
      · skip
        refine X_bipush (v := 99) (nx := 48) dX7_firstNotSo_46 rfl rfl ?_
        refine X_top (rwn_n g28 h43) ?_
        refine X_goto (tgt := 53) dX7_firstNotSo_48 rfl ?_
        refine X_icmp_eq (tgt := 58) (nx := 56) dX7_firstNotSo_53 rfl rfl (fun h53 => ?_) (fun h53 => ?_)
        · skip
          rw [nI_eq (by omega) (by omega)] at h53
          refine X_iinc (nx := 61) dX7_firstNotSo_58 rfl (by decide) rfl (by first | exact ii1 _ | rfl) rfl (st_s (st_s (st_s (st_0)))) ?_
          refine X_goto (tgt := 10) dX7_firstNotSo_61 rfl ?_
          rw [fst_step (p := wrg S K F v) (decide_eq_false (fun q => q h53))]
          exact ih (i + 1) D28 _ (by omega) g28.1 (hf.tr g28.2.1)
        · skip
          rw [nI_eq (by omega) (by omega)] at h53
          refine X_iload_n (nx := 57) dX7_firstNotSo_56 rfl rfl rfl ?_
          exact Z_reti dX7_firstNotSo_57 (Or.inl rfl) (⟨by rw [fst_hit (p := wrg S K F v) (decide_eq_true h53)]; rfl, g28.1, hf.tr g28.2.1⟩)
theorem sp_X7_firstNotSo {S : St} {K F : Nat → Nat} {D : Mem} {v : Nat} {x : Int32} (h : INVK D S K F) (hx : x = nI v) (hv : v < 4) : Rix 21 j_X7_firstNotSo [.ref 0, .int x] D (fun u D' => u = opI (fns S K F v) ∧ INVK D' S K F ∧ Fr inS D D') := by
  refine E.start 3 (ls := [some (.ref 0), some (.int x), none, none, none]) (by decide +kernel) (Nat.le_of_ble_eq_true rfl) rfl (Nat.le_refl _) (Nat.le_refl _) ?_
  subst hx
  refine X_aload_n (nx := 1) dX7_firstNotSo_0 rfl rfl rfl ?_
  refine M_getP (nx := 4) dX7_firstNotSo_1 rfl fl_RX7_10 rfl (by first | assumption | rfl | decide | omega) (by first | assumption | rfl | decide | omega) (by first | assumption | rfl | decide | omega) ?_
  refine Y_Vi0 (nx := 7) dX7_firstNotSo_4 rfl ml_RX7_125 kj_X0_thereBits kv_X0_thereBits (sp_X0_thereBits (Or.inl rfl) h.1.1) (by first | assumption | rfl | decide | omega) (by first | assumption | rfl | decide | omega) (by decide) rfl (by first | decide | omega) (by exact Nat.le_of_ble_eq_true rfl) ?_
  refine X_istore_n (i := 2) (nx := 8) dX7_firstNotSo_7 rfl rfl (by decide) rfl (st_s (st_s (st_0))) ?_
  refine X_iconst (v := nI 0) (nx := 9) dX7_firstNotSo_8 rfl rfl ?_
  refine X_istore_n (i := 3) (nx := 10) dX7_firstNotSo_9 rfl rfl (by decide) rfl (st_s (st_s (st_s (st_0)))) ?_
  exact lp_fns hv _ 0 D none (Nat.zero_add _) h Fr.rf
def m_judge (S : St) (y : Int32) : Int32 × St := if decide (0 ≤ y ∧ y < 4) = true then (opI (fns S (kd_ (bk S)) (fg_ (bk S)) y.toNatClampNeg), (bk S, kp S, im S, tl S, [], rf S)) else no_ S 2
theorem dX7_judge_0 : decode cX7_judge 0 = .ok (.iload_n 1, 1) := by decide +kernel
theorem dX7_judge_1 : decode cX7_judge 1 = .ok (.invokestatic 115, 3) := by decide +kernel
theorem dX7_judge_4 : decode cX7_judge 4 = .ok (.ifCond .ne 10, 3) := by decide +kernel
theorem dX7_judge_7 : decode cX7_judge 7 = .ok (.aload_n 0, 1) := by decide +kernel
theorem dX7_judge_8 : decode cX7_judge 8 = .ok (.bipush (-2), 2) := by decide +kernel
theorem dX7_judge_10 : decode cX7_judge 10 = .ok (.invokevirtual 51, 3) := by decide +kernel
theorem dX7_judge_13 : decode cX7_judge 13 = .ok (.ireturn, 1) := by decide +kernel
theorem dX7_judge_14 : decode cX7_judge 14 = .ok (.aload_n 0, 1) := by decide +kernel
theorem dX7_judge_15 : decode cX7_judge 15 = .ok (.iload_n 1, 1) := by decide +kernel
theorem dX7_judge_16 : decode cX7_judge 16 = .ok (.invokevirtual 250, 3) := by decide +kernel
theorem dX7_judge_19 : decode cX7_judge 19 = .ok (.istore_n 2, 1) := by decide +kernel
theorem dX7_judge_20 : decode cX7_judge 20 = .ok (.aload_n 0, 1) := by decide +kernel
theorem dX7_judge_21 : decode cX7_judge 21 = .ok (.getfield 38, 3) := by decide +kernel
theorem dX7_judge_24 : decode cX7_judge 24 = .ok (.iconst 0, 1) := by decide +kernel
theorem dX7_judge_25 : decode cX7_judge 25 = .ok (.putfield 62, 3) := by decide +kernel
theorem dX7_judge_28 : decode cX7_judge 28 = .ok (.iload_n 2, 1) := by decide +kernel
theorem dX7_judge_29 : decode cX7_judge 29 = .ok (.ireturn, 1) := by decide +kernel
theorem sp_X7_judge {y : Int32} {S : St} {D : Mem} (h : INV1 D S) : Rix 22 j_X7_judge [.ref 0, .int y] D (fun u D' => CK D (m_judge S y) u D') := by
  refine E.start 1 (ls := [some (.ref 0), some (.int y), none]) (by decide +kernel) (Nat.le_of_ble_eq_true rfl) rfl (Nat.le_refl _) (Nat.le_refl _) ?_
  have hcm := h.1.2.1.2.1
  refine X_iload_n (nx := 1) dX7_judge_0 rfl rfl rfl ?_
  refine Y_Si1 (nx := 4) dX7_judge_1 rfl ml_RX7_115 kj_X7_isVerb ks_X7_isVerb (sp_X7_isVerb) (by first | decide | omega) (by exact Nat.le_of_ble_eq_true rfl) ?_
  refine X_if_ne (tgt := 14) (nx := 7) dX7_judge_4 rfl rfl (fun h4 => ?_) (fun h4 => ?_)
  · skip
    have c4 := b2i_t.mp h4
    obtain ⟨v, hv, rfl⟩ := ex_nI (N := 4) (n := 4) rfl (by decide) (of_decide_eq_true c4)
    have k4 : (nI v).toNatClampNeg = v := nI_clamp (by omega)
    refine X_aload_n (nx := 15) dX7_judge_14 rfl rfl rfl ?_
    refine X_iload_n (nx := 16) dX7_judge_15 rfl rfl rfl ?_
    refine Z_Vi1 (nx := 19) dX7_judge_16 rfl ml_RX7_250 kj_X7_firstNotSo kv_X7_firstNotSo (sp_X7_firstNotSo h rfl hv) (by first | assumption | rfl | decide | omega) (by first | assumption | rfl | decide | omega) (by decide) rfl (by first | decide | omega) (by exact Nat.le_of_ble_eq_true rfl) (fun u16 D16 g16 => ?_)
    refine X_istore_n (i := 2) (nx := 20) dX7_judge_19 rfl rfl (by decide) rfl (st_s (st_s (st_0))) ?_
    refine X_aload_n (nx := 21) dX7_judge_20 rfl rfl rfl ?_
    refine M_getP (nx := 24) dX7_judge_21 rfl fl_RX7_38 rfl (by first | assumption | rfl | decide | omega) (by first | assumption | rfl | decide | omega) (by first | assumption | rfl | decide | omega) ?_
    refine X_iconst (v := 0) (nx := 25) dX7_judge_24 rfl rfl ?_
    refine M_putI (nx := 28) dX7_judge_25 rfl fl_RX7_62 rfl rfl (by first | assumption | rfl | decide | omega) (by first | assumption | rfl | decide | omega) ?_
    refine X_iload_n (nx := 29) dX7_judge_28 rfl rfl rfl ?_
    exact Z_reti dX7_judge_29 (Or.inl rfl) (by unfold m_judge; rw [if_pos c4, k4]; exact ⟨g16.1, (inv_row0 g16.2.1).1, g16.2.2.sc.tr (inv_row0 g16.2.1).2⟩)
  · skip
    have n4 := nb h4
    refine X_aload_n (nx := 8) dX7_judge_7 rfl rfl rfl ?_
    refine X_bipush (v := -2) (nx := 10) dX7_judge_8 rfl rfl ?_
    refine Y_Vi1 (nx := 13) dX7_judge_10 rfl ml_RX7_51 kj_X7_refuse kv_X7_refuse (sp_X7_refuse (k := 2) rfl (by omega) (by omega)) (by first | assumption | rfl | decide | omega) (by first | assumption | rfl | decide | omega) (by decide) rfl (by first | decide | omega) (by exact Nat.le_of_ble_eq_true rfl) ?_
    exact Z_reti dX7_judge_13 (Or.inl rfl) (by unfold m_judge; rw [if_neg n4]; exact ck_no (k := 2) h Fr.rf (by omega) (by omega))
