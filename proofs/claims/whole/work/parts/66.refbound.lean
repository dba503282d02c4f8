/-! THE REFERENCE: what is bound -/
def bnd (L : List Nat) (root : Nat) (o : Option Nat) (x : Int32) : Int32 := match o with
  | some q => nI (L.getD (root + q) 0)
  | none => x
theorem pb_fst {s : List Nat} (h : VS s) (k : Nat) : fst_ (pbQ s k) 0 s.length = plOf s k 0 (pl s) := by
  unfold plOf
  have e : ∀ j, j < pl s → pbQ s k j = (decide (10 ≤ s.getD j 0) && decide (s.getD j 0 % 10 = k)) := by
    intro j hj
    have h1 := h.plain hj
    unfold pbQ
    congr 1
    have := h1.1
    unfold sgv at this
    exact decide_eq_decide.mpr ⟨fun q => q.1, fun q => ⟨q, by omega⟩⟩
  rw [fst_cut (c := pl s) (pl_le s) (fun x h1 h2 => ?_)]
  · rw [fst_congr (fun x _ hx => e x (by omega))]
  · rcases VS_cut h with q | ⟨q, q2⟩
    · omega
    · rw [show x = pl s by omega]
      unfold pbQ
      rw [q2]; rfl
theorem pbQ_f {s : List Nat} {i k : Nat} (h : ¬ (10 ≤ s.getD i 0 ∧ s.getD i 0 < 40)) : pbQ s k i = false := by unfold pbQ; rw [decide_eq_false h]; rfl
theorem pbQ_o {s : List Nat} {i k : Nat} (h : ¬ s.getD i 0 % 10 = k) : pbQ s k i = false := by unfold pbQ; rw [decide_eq_false h, Bool.and_false]
theorem pbQ_t {s : List Nat} {i k : Nat} (h : 10 ≤ s.getD i 0 ∧ s.getD i 0 < 40) (h2 : s.getD i 0 % 10 = k) : pbQ s k i = true := by unfold pbQ; rw [decide_eq_true h, decide_eq_true h2]; rfl
theorem pd_none {s : List Nat} {i : Nat} (hp : PDs s) (hi : i < s.length) (h : 10 ≤ s.getD i 0 ∧ s.getD i 0 < 40) : fst_ (pbQ s (s.getD i 0 % 10)) 0 i = none := by
  refine fst_intro_none (fun x _ hx => ?_)
  by_cases h1 : 10 ≤ s.getD x 0 ∧ s.getD x 0 < 40
  · exact pbQ_o (hp x i (by omega) hi h1.1 h1.2 h.1 h.2)
  · exact pbQ_f h1
theorem dX8_bindsBy_0 : decode cX8_bindsBy 0 = .ok (.iconst 0, 1) := by decide +kernel
theorem dX8_bindsBy_1 : decode cX8_bindsBy 1 = .ok (.istore_n 3, 1) := by decide +kernel
theorem dX8_bindsBy_2 : decode cX8_bindsBy 2 = .ok (.iload_n 3, 1) := by decide +kernel
theorem dX8_bindsBy_3 : decode cX8_bindsBy 3 = .ok (.aload_n 0, 1) := by decide +kernel
theorem dX8_bindsBy_4 : decode cX8_bindsBy 4 = .ok (.getfield 31, 3) := by decide +kernel
theorem dX8_bindsBy_7 : decode cX8_bindsBy 7 = .ok (.iload_n 1, 1) := by decide +kernel
theorem dX8_bindsBy_8 : decode cX8_bindsBy 8 = .ok (.iaload, 1) := by decide +kernel
theorem dX8_bindsBy_9 : decode cX8_bindsBy 9 = .ok (.if_icmp .ge 51, 3) := by decide +kernel
theorem dX8_bindsBy_12 : decode cX8_bindsBy 12 = .ok (.aload_n 0, 1) := by decide +kernel
theorem dX8_bindsBy_13 : decode cX8_bindsBy 13 = .ok (.getfield 34, 3) := by decide +kernel
theorem dX8_bindsBy_16 : decode cX8_bindsBy 16 = .ok (.iconst 4, 1) := by decide +kernel
theorem dX8_bindsBy_17 : decode cX8_bindsBy 17 = .ok (.iload_n 1, 1) := by decide +kernel
theorem dX8_bindsBy_18 : decode cX8_bindsBy 18 = .ok (.imul, 1) := by decide +kernel
theorem dX8_bindsBy_19 : decode cX8_bindsBy 19 = .ok (.iload_n 3, 1) := by decide +kernel
theorem dX8_bindsBy_20 : decode cX8_bindsBy 20 = .ok (.iadd, 1) := by decide +kernel
theorem dX8_bindsBy_21 : decode cX8_bindsBy 21 = .ok (.iaload, 1) := by decide +kernel
theorem dX8_bindsBy_22 : decode cX8_bindsBy 22 = .ok (.istore 4, 2) := by decide +kernel
theorem dX8_bindsBy_24 : decode cX8_bindsBy 24 = .ok (.iload 4, 2) := by decide +kernel
theorem dX8_bindsBy_26 : decode cX8_bindsBy 26 = .ok (.bipush 10, 2) := by decide +kernel
theorem dX8_bindsBy_28 : decode cX8_bindsBy 28 = .ok (.bipush 39, 2) := by decide +kernel
theorem dX8_bindsBy_30 : decode cX8_bindsBy 30 = .ok (.invokestatic 115, 3) := by decide +kernel
theorem dX8_bindsBy_33 : decode cX8_bindsBy 33 = .ok (.ifCond .eq 21, 3) := by decide +kernel
theorem dX8_bindsBy_36 : decode cX8_bindsBy 36 = .ok (.aload_n 0, 1) := by decide +kernel
theorem dX8_bindsBy_37 : decode cX8_bindsBy 37 = .ok (.getfield 67, 3) := by decide +kernel
theorem dX8_bindsBy_40 : decode cX8_bindsBy 40 = .ok (.iload 4, 2) := by decide +kernel
theorem dX8_bindsBy_42 : decode cX8_bindsBy 42 = .ok (.bipush 10, 2) := by decide +kernel
theorem dX8_bindsBy_44 : decode cX8_bindsBy 44 = .ok (.irem, 1) := by decide +kernel
theorem dX8_bindsBy_45 : decode cX8_bindsBy 45 = .ok (.aload_n 0, 1) := by decide +kernel
theorem dX8_bindsBy_46 : decode cX8_bindsBy 46 = .ok (.getfield 37, 3) := by decide +kernel
theorem dX8_bindsBy_49 : decode cX8_bindsBy 49 = .ok (.iload_n 2, 1) := by decide +kernel
theorem dX8_bindsBy_50 : decode cX8_bindsBy 50 = .ok (.iload_n 3, 1) := by decide +kernel
theorem dX8_bindsBy_51 : decode cX8_bindsBy 51 = .ok (.iadd, 1) := by decide +kernel
theorem dX8_bindsBy_52 : decode cX8_bindsBy 52 = .ok (.iaload, 1) := by decide +kernel
theorem dX8_bindsBy_53 : decode cX8_bindsBy 53 = .ok (.iastore, 1) := by decide +kernel
theorem dX8_bindsBy_54 : decode cX8_bindsBy 54 = .ok (.iinc 3 1, 3) := by decide +kernel
theorem dX8_bindsBy_57 : decode cX8_bindsBy 57 = .ok (.goto (-55), 3) := by decide +kernel
theorem dX8_bindsBy_60 : decode cX8_bindsBy 60 = .ok (.return_, 1) := by decide +kernel
theorem lp_X8_bindsBy {r root : Nat} {L : List Nat} {B : Bk} {T : Nat → Bool} {K F : Nat → Nat} {D : Mem} (h : RB D B T K F) (hV : VB B) (hP : PDs (sg_ B r)) (hL : LT D L) (hr : r < cm_ B) (hro : root + pl (sg_ B r) ≤ L.length) : ∀ (m : Nat) (i : Nat) (D1 : Mem), i + m = (sg_ B r).length → (∀ k, k < 4 → D1 124 k = bnd L root (fst_ (pbQ (sg_ B r) k) 0 i) (D 124 k)) → Fq (fun b i => b = 124 ∧ i < 4) D D1 → X 2 138 j_X8_bindsBy 2 [some (.ref 104), some (.int (nI r)), some (.int (nI root)), some (.int (nI i)), none] [] (138, P0, D1) (fun x σ => ∃ (D' : Mem), x = [] ∧ σ = wd D' ∧ ((∀ k, k < 4 → D' 124 k = bnd L root (plOf (sg_ B r) k 0 (pl (sg_ B r))) (D 124 k)) ∧ Fq (fun b i => b = 124 ∧ i < 4) D D')) := by
  intro m
  induction m with
  | zero =>
    intro i D1 hi hl hq
    obtain ⟨hB1, hB2, hB3⟩ := id h
    have hcm := hV.2.1
    have hvs := (hV.2.2 r hr).2.1
    have hl4 := sgl_le hV hr
    refine X_iload_n (nx := 3) dX8_bindsBy_2 rfl rfl rfl ?_
    refine X_aload_n (nx := 4) dX8_bindsBy_3 rfl rfl rfl ?_
    refine M_getP (nx := 7) dX8_bindsBy_4 rfl fl_RX8_31 rfl (by first | assumption | rfl | decide | omega) (by first | assumption | rfl | decide | omega) (by first | assumption | rfl | decide | omega) ?_
    refine X_iload_n (nx := 8) dX8_bindsBy_7 rfl rfl rfl ?_
    refine M_ld (a := 112) (L := 10) (nx := 9) dX8_bindsBy_8 rfl (by decide) (by decide) rfl (by decide) (by omega) ((hq 112 r (by omega)).trans (hB3 r hr).2.2.2.2.1) ?_
    refine X_icmp_ge (tgt := 60) (nx := 12) dX8_bindsBy_9 rfl rfl (fun h9 => ?_) (fun h9 => ?_)
    · skip
      exact Z_retv dX8_bindsBy_60 rfl ⟨fun k hk => by obtain rfl : i = (sg_ B r).length := (by omega); rw [← pb_fst hvs]; exact hl k hk, hq⟩
    · exact absurd h9 (fun q => q (nI_le (by omega) (by omega)))
  | succ m ih =>
    intro i D1 hi hl hq
    obtain ⟨hB1, hB2, hB3⟩ := id h
    have hcm := hV.2.1
    have hvs := (hV.2.2 r hr).2.1
    have hl4 := sgl_le hV hr
    have hLL := hL.2.2.1
    have hsv := hvs.2.1 _ (getD_in (show i < (sg_ B r).length by omega))
    have hs40 := sgv_le hsv
    refine X_iload_n (nx := 3) dX8_bindsBy_2 rfl rfl rfl ?_
    refine X_aload_n (nx := 4) dX8_bindsBy_3 rfl rfl rfl ?_
    refine M_getP (nx := 7) dX8_bindsBy_4 rfl fl_RX8_31 rfl (by first | assumption | rfl | decide | omega) (by first | assumption | rfl | decide | omega) (by first | assumption | rfl | decide | omega) ?_
    refine X_iload_n (nx := 8) dX8_bindsBy_7 rfl rfl rfl ?_
    refine M_ld (a := 112) (L := 10) (nx := 9) dX8_bindsBy_8 rfl (by decide) (by decide) rfl (by decide) (by omega) ((hq 112 r (by omega)).trans (hB3 r hr).2.2.2.2.1) ?_
    refine X_icmp_ge (tgt := 60) (nx := 12) dX8_bindsBy_9 rfl rfl (fun h9 => ?_) (fun h9 => ?_)
    · exact absurd h9 (nI_ge (by omega) (by omega))
    · skip
      refine X_aload_n (nx := 13) dX8_bindsBy_12 rfl rfl rfl ?_
      refine M_getP (nx := 16) dX8_bindsBy_13 rfl fl_RX8_34 rfl (by first | assumption | rfl | decide | omega) (by first | assumption | rfl | decide | omega) (by first | assumption | rfl | decide | omega) ?_
      refine X_iconst (v := nI 4) (nx := 17) dX8_bindsBy_16 rfl rfl ?_
      refine X_iload_n (nx := 18) dX8_bindsBy_17 rfl rfl rfl ?_
      refine X_imul (nx := 19) dX8_bindsBy_18 rfl ?_
      refine X_top (mul_nI) ?_
      refine X_iload_n (nx := 20) dX8_bindsBy_19 rfl rfl rfl ?_
      refine X_iadd (nx := 21) dX8_bindsBy_20 rfl ?_
      refine X_top (nI_add _ _) ?_
      refine M_ld (a := 113) (L := 40) (nx := 22) dX8_bindsBy_21 rfl (by decide) (by decide) rfl (by decide) (by omega) ((hq 113 _ (by omega)).trans ((hB3 r hr).2.2.2.2.2 i (by omega))) ?_
      refine X_istore (i := 4) (nx := 24) dX8_bindsBy_22 rfl (by decide) rfl (st_s (st_s (st_s (st_s (st_0))))) ?_
      refine X_iload (nx := 26) dX8_bindsBy_24 rfl rfl ?_
      refine X_bipush (v := 10) (nx := 28) dX8_bindsBy_26 rfl rfl ?_
      refine X_bipush (v := 39) (nx := 30) dX8_bindsBy_28 rfl rfl ?_
      refine Y_Si3 (nx := 33) dX8_bindsBy_30 rfl ml_RX8_115 kj_X8_isIn ks_X8_isIn (sp_X8_isIn) (by first | decide | omega) (by exact Nat.le_of_ble_eq_true rfl) ?_
      refine X_top (congrArg b2i (in39 (by omega))) ?_
      refine X_if_eq (tgt := 54) (nx := 36) dX8_bindsBy_33 rfl rfl (fun h33 => ?_) (fun h33 => ?_)
      · skip
        have h33 := of_decide_eq_false (b2i_f.mp h33)
        refine X_iinc (nx := 57) dX8_bindsBy_54 rfl (by decide) rfl (ii1 _) rfl (st_s (st_s (st_s (st_0)))) ?_
        refine X_goto (tgt := 2) dX8_bindsBy_57 rfl ?_
        refine X_fgn5 ?_
        first
        | exact ih (i + 1) D1 (by omega) (fun k hk => by rw [sn_n (pbQ_f h33)]; exact hl k hk) hq
        | (refine ih (i + 1) _ (by omega) (fun k hk => ?_) (hq.tr (Fq.up ⟨rfl, hm4⟩))
           by_cases e : (sg_ B r).getD i 0 % 10 = k
           · rw [← e, sn_h hpn (pbQ_t h33 rfl), up2_same]; rfl
           · rw [sn_n (pbQ_o e), up2_other (by omega)]; exact hl k hk)
      · skip
        have h33 := of_decide_eq_true (b2i_t.mp h33)
        have hip : i < pl (sg_ B r) := by
          rcases VS_cut hvs with q | ⟨q, q2⟩
          · omega
          · exact Nat.not_le.mp (fun w => by have e : i = pl (sg_ B r) := (by omega); rw [e, q2] at h33; omega)
        have hm4 : (sg_ B r).getD i 0 % 10 < 4 := by unfold sgv at hsv; omega
        have hpn := pd_none hP (show i < (sg_ B r).length by omega) h33
        refine X_aload_n (nx := 37) dX8_bindsBy_36 rfl rfl rfl ?_
        refine M_getP (nx := 40) dX8_bindsBy_37 rfl fl_RX8_67 rfl (by first | assumption | rfl | decide | omega) (by first | assumption | rfl | decide | omega) (by first | assumption | rfl | decide | omega) ?_
        refine X_iload (nx := 42) dX8_bindsBy_40 rfl rfl ?_
        refine X_bipush (v := 10) (nx := 44) dX8_bindsBy_42 rfl rfl ?_
        refine X_irem (nx := 45) dX8_bindsBy_44 rfl (by decide) ?_
        refine X_top (rem10 (by omega)) ?_
        refine X_aload_n (nx := 46) dX8_bindsBy_45 rfl rfl rfl ?_
        refine M_getP (nx := 49) dX8_bindsBy_46 rfl fl_RX8_37 rfl (by first | assumption | rfl | decide | omega) (by first | assumption | rfl | decide | omega) (by first | assumption | rfl | decide | omega) ?_
        refine X_iload_n (nx := 50) dX8_bindsBy_49 rfl rfl rfl ?_
        refine X_iload_n (nx := 51) dX8_bindsBy_50 rfl rfl rfl ?_
        refine X_iadd (nx := 52) dX8_bindsBy_51 rfl ?_
        refine X_top (nI_add _ _) ?_
        refine M_ld (a := 114) (L := 4) (nx := 53) dX8_bindsBy_52 rfl (by decide) (by decide) rfl (by decide) (by omega) ((hq 114 _ (by omega)).trans (hL.2.1 _ (by omega))) ?_
        refine M_st (a := 124) (L := 6) (nx := 54) dX8_bindsBy_53 rfl (by decide) (by decide) rfl (by decide) (by omega) ?_
        refine X_iinc (nx := 57) dX8_bindsBy_54 rfl (by decide) rfl (ii1 _) rfl (st_s (st_s (st_s (st_0)))) ?_
        refine X_goto (tgt := 2) dX8_bindsBy_57 rfl ?_
        refine X_fgn5 ?_
        first
        | exact ih (i + 1) D1 (by omega) (fun k hk => by rw [sn_n (pbQ_f h33)]; exact hl k hk) hq
        | (refine ih (i + 1) _ (by omega) (fun k hk => ?_) (hq.tr (Fq.up ⟨rfl, hm4⟩))
           by_cases e : (sg_ B r).getD i 0 % 10 = k
           · rw [← e, sn_h hpn (pbQ_t h33 rfl), up2_same]; rfl
           · rw [sn_n (pbQ_o e), up2_other (by omega)]; exact hl k hk)
theorem sp_X8_bindsBy {r root : Nat} {x y : Int32} {L : List Nat} {B : Bk} {T : Nat → Bool} {K F : Nat → Nat} {D : Mem} (h : RB D B T K F) (hV : VB B) (hP : PDs (sg_ B r)) (hL : LT D L) (hx : x = nI r) (hr : r < cm_ B) (hy : y = nI root) (hro : root + pl (sg_ B r) ≤ L.length) : Rvx 2 j_X8_bindsBy [.ref 104, .int x, .int y] D (fun D' => (∀ k, k < 4 → D' 124 k = bnd L root (plOf (sg_ B r) k 0 (pl (sg_ B r))) (D 124 k)) ∧ Fq (fun b i => b = 124 ∧ i < 4) D D') := by
  refine E.start 2 (ls := [some (.ref 104), some (.int x), some (.int y), none, none]) (by decide +kernel) (Nat.le_of_ble_eq_true rfl) rfl (Nat.le_refl _) (Nat.le_refl _) ?_
  subst hx; subst hy
  refine X_iconst (v := nI 0) (nx := 1) dX8_bindsBy_0 rfl rfl ?_
  refine X_istore_n (i := 3) (nx := 2) dX8_bindsBy_1 rfl rfl (by decide) rfl (st_s (st_s (st_s (st_0)))) ?_
  exact lp_X8_bindsBy h hV hP hL hr hro (sg_ B r).length 0 D (Nat.zero_add _) (fun k hk => rfl) Fq.rf
theorem VIA_root {D : Mem} : ∀ {t : Nat} {ml : List (Nat × Nat)}, VIA D t ml → D 119 t = nI (lbSt ml ml.length) := by
  intro t
  induction t with
  | zero =>
    intro ml h
    obtain ⟨rfl, h2⟩ := h
    exact h2
  | succ t ih =>
    intro ml h
    rcases h with ⟨_, h2, h3⟩ | ⟨ml', i, a, h1, _, _, h4, _⟩
    · rw [h2]; exact ih h3
    · subst h1
      rw [h4, List.length_append, List.length_singleton]
      show nI a = nI ((ml' ++ [(i, a)]).getD ml'.length (0, 0)).2
      rw [List.getD_eq_getElem?_getD, List.getElem?_append_right (Nat.le_refl _), Nat.sub_self]; rfl
/-- what is bound behind the first j mounts of ML -/
def FBS (B : Bk) (L : List Nat) (ML : List (Nat × Nat)) (e j : Nat) (D : Mem) : Prop := (∀ k, k < 4 → D 124 k = lbA B L ML e k j) ∧ D 124 4 = -9 ∧ D 124 5 = nI j
def FBQ (b i : Nat) : Prop := b = 124 ∧ i < 6
theorem lb_pre {ml rest : List (Nat × Nat)} {i a : Nat} : lbSt (ml ++ (i, a) :: rest) ml.length = lbSt ml ml.length ∧ ∀ e, lbR (ml ++ (i, a) :: rest) e ml.length = i := by
  constructor
  · cases h : ml.length with
    | zero => rfl
    | succ n =>
      show ((ml ++ (i, a) :: rest).getD n (0, 0)).2 = (ml.getD n (0, 0)).2
      rw [List.getD_eq_getElem?_getD, List.getElem?_append_left (by omega), List.getD_eq_getElem?_getD]
  · intro e
    unfold lbR
    rw [if_pos (by rw [List.length_append, List.length_cons]; omega), List.getD_eq_getElem?_getD, List.getElem?_append_right (Nat.le_refl _), Nat.sub_self]; rfl
theorem lbA_s {B : Bk} {L : List Nat} {ML : List (Nat × Nat)} {e k j r root : Nat} (hr : lbR ML e j = r) (ho : lbSt ML j = root) : lbA B L ML e k (j + 1) = bnd L root (plOf (sg_ B r) k 0 (pl (sg_ B r))) (lbA B L ML e k j) := by
  subst hr; subst ho
  show (match plOf (sg_ B (lbR ML e j)) k 0 (pl (sg_ B (lbR ML e j))) with
    | some q => nI (L.getD (lbSt ML j + q) 0)
    | none => lbA B L ML e k j) = _
  unfold bnd
  cases plOf (sg_ B (lbR ML e j)) k 0 (pl (sg_ B (lbR ML e j))) <;> rfl
theorem X_fg2o {d k pc : Nat} {j : MI} {a o : Option Value} {st : List Value} {σ : Wd} {Q : List Value → Wd → Prop} (hX : X d k j pc [a, none] st σ Q) : X d k j pc [a, o] st σ Q := by
  refine X_forget (fun i v h => ?_) hX
  match i, h with
  | 0, h => exact h
  | 1, h => cases h
  | n + 2, h => cases h
theorem dX8_findBound_0 : decode cX8_findBound 0 = .ok (.iconst 0, 1) := by decide +kernel
theorem dX8_findBound_1 : decode cX8_findBound 1 = .ok (.istore_n 1, 1) := by decide +kernel
theorem dX8_findBound_2 : decode cX8_findBound 2 = .ok (.iload_n 1, 1) := by decide +kernel
theorem dX8_findBound_3 : decode cX8_findBound 3 = .ok (.iconst 5, 1) := by decide +kernel
theorem dX8_findBound_4 : decode cX8_findBound 4 = .ok (.if_icmp .ge 17, 3) := by decide +kernel
theorem dX8_findBound_7 : decode cX8_findBound 7 = .ok (.aload_n 0, 1) := by decide +kernel
theorem dX8_findBound_8 : decode cX8_findBound 8 = .ok (.getfield 67, 3) := by decide +kernel
theorem dX8_findBound_11 : decode cX8_findBound 11 = .ok (.iload_n 1, 1) := by decide +kernel
theorem dX8_findBound_12 : decode cX8_findBound 12 = .ok (.bipush (-9), 2) := by decide +kernel
theorem dX8_findBound_14 : decode cX8_findBound 14 = .ok (.iastore, 1) := by decide +kernel
theorem dX8_findBound_15 : decode cX8_findBound 15 = .ok (.iinc 1 1, 3) := by decide +kernel
theorem dX8_findBound_18 : decode cX8_findBound 18 = .ok (.goto (-16), 3) := by decide +kernel
theorem dX8_findBound_21 : decode cX8_findBound 21 = .ok (.aload_n 0, 1) := by decide +kernel
theorem dX8_findBound_22 : decode cX8_findBound 22 = .ok (.getfield 67, 3) := by decide +kernel
theorem dX8_findBound_25 : decode cX8_findBound 25 = .ok (.iconst 5, 1) := by decide +kernel
theorem dX8_findBound_26 : decode cX8_findBound 26 = .ok (.iconst 0, 1) := by decide +kernel
theorem dX8_findBound_27 : decode cX8_findBound 27 = .ok (.iastore, 1) := by decide +kernel
theorem dX8_findBound_28 : decode cX8_findBound 28 = .ok (.iconst 1, 1) := by decide +kernel
theorem dX8_findBound_29 : decode cX8_findBound 29 = .ok (.istore_n 1, 1) := by decide +kernel
theorem dX8_findBound_30 : decode cX8_findBound 30 = .ok (.iload_n 1, 1) := by decide +kernel
theorem dX8_findBound_31 : decode cX8_findBound 31 = .ok (.aload_n 0, 1) := by decide +kernel
theorem dX8_findBound_32 : decode cX8_findBound 32 = .ok (.getfield 140, 3) := by decide +kernel
theorem dX8_findBound_35 : decode cX8_findBound 35 = .ok (.if_icmp .gt 49, 3) := by decide +kernel
theorem dX8_findBound_38 : decode cX8_findBound 38 = .ok (.aload_n 0, 1) := by decide +kernel
theorem dX8_findBound_39 : decode cX8_findBound 39 = .ok (.getfield 61, 3) := by decide +kernel
theorem dX8_findBound_42 : decode cX8_findBound 42 = .ok (.iload_n 1, 1) := by decide +kernel
theorem dX8_findBound_43 : decode cX8_findBound 43 = .ok (.iaload, 1) := by decide +kernel
theorem dX8_findBound_44 : decode cX8_findBound 44 = .ok (.ifCond .ge 6, 3) := by decide +kernel
theorem dX8_findBound_47 : decode cX8_findBound 47 = .ok (.goto 31, 3) := by decide +kernel
theorem dX8_findBound_50 : decode cX8_findBound 50 = .ok (.aload_n 0, 1) := by decide +kernel
theorem dX8_findBound_51 : decode cX8_findBound 51 = .ok (.aload_n 0, 1) := by decide +kernel
theorem dX8_findBound_52 : decode cX8_findBound 52 = .ok (.getfield 61, 3) := by decide +kernel
theorem dX8_findBound_55 : decode cX8_findBound 55 = .ok (.iload_n 1, 1) := by decide +kernel
theorem dX8_findBound_56 : decode cX8_findBound 56 = .ok (.iaload, 1) := by decide +kernel
theorem dX8_findBound_57 : decode cX8_findBound 57 = .ok (.aload_n 0, 1) := by decide +kernel
theorem dX8_findBound_58 : decode cX8_findBound 58 = .ok (.getfield 52, 3) := by decide +kernel
theorem dX8_findBound_61 : decode cX8_findBound 61 = .ok (.iload_n 1, 1) := by decide +kernel
theorem dX8_findBound_62 : decode cX8_findBound 62 = .ok (.iconst 1, 1) := by decide +kernel
theorem dX8_findBound_63 : decode cX8_findBound 63 = .ok (.isub, 1) := by decide +kernel
theorem dX8_findBound_64 : decode cX8_findBound 64 = .ok (.iaload, 1) := by decide +kernel
theorem dX8_findBound_65 : decode cX8_findBound 65 = .ok (.invokevirtual 201, 3) := by decide +kernel
theorem dX8_findBound_68 : decode cX8_findBound 68 = .ok (.aload_n 0, 1) := by decide +kernel
theorem dX8_findBound_69 : decode cX8_findBound 69 = .ok (.getfield 67, 3) := by decide +kernel
theorem dX8_findBound_72 : decode cX8_findBound 72 = .ok (.iconst 5, 1) := by decide +kernel
theorem dX8_findBound_73 : decode cX8_findBound 73 = .ok (.dup2, 1) := by decide +kernel
theorem dX8_findBound_74 : decode cX8_findBound 74 = .ok (.iaload, 1) := by decide +kernel
theorem dX8_findBound_75 : decode cX8_findBound 75 = .ok (.iconst 1, 1) := by decide +kernel
theorem dX8_findBound_76 : decode cX8_findBound 76 = .ok (.iadd, 1) := by decide +kernel
theorem dX8_findBound_77 : decode cX8_findBound 77 = .ok (.iastore, 1) := by decide +kernel
theorem dX8_findBound_78 : decode cX8_findBound 78 = .ok (.iinc 1 1, 3) := by decide +kernel
theorem dX8_findBound_81 : decode cX8_findBound 81 = .ok (.goto (-51), 3) := by decide +kernel
theorem dX8_findBound_84 : decode cX8_findBound 84 = .ok (.aload_n 0, 1) := by decide +kernel
theorem dX8_findBound_85 : decode cX8_findBound 85 = .ok (.aload_n 0, 1) := by decide +kernel
theorem dX8_findBound_86 : decode cX8_findBound 86 = .ok (.getfield 185, 3) := by decide +kernel
theorem dX8_findBound_89 : decode cX8_findBound 89 = .ok (.aload_n 0, 1) := by decide +kernel
theorem dX8_findBound_90 : decode cX8_findBound 90 = .ok (.getfield 52, 3) := by decide +kernel
theorem dX8_findBound_93 : decode cX8_findBound 93 = .ok (.aload_n 0, 1) := by decide +kernel
theorem dX8_findBound_94 : decode cX8_findBound 94 = .ok (.getfield 140, 3) := by decide +kernel
theorem dX8_findBound_97 : decode cX8_findBound 97 = .ok (.iaload, 1) := by decide +kernel
theorem dX8_findBound_98 : decode cX8_findBound 98 = .ok (.invokevirtual 201, 3) := by decide +kernel
theorem dX8_findBound_101 : decode cX8_findBound 101 = .ok (.aload_n 0, 1) := by decide +kernel
theorem dX8_findBound_102 : decode cX8_findBound 102 = .ok (.aload_n 0, 1) := by decide +kernel
theorem dX8_findBound_103 : decode cX8_findBound 103 = .ok (.getfield 185, 3) := by decide +kernel
theorem dX8_findBound_106 : decode cX8_findBound 106 = .ok (.invokevirtual 149, 3) := by decide +kernel
theorem dX8_findBound_109 : decode cX8_findBound 109 = .ok (.ifCond .eq 23, 3) := by decide +kernel
theorem dX8_findBound_112 : decode cX8_findBound 112 = .ok (.aload_n 0, 1) := by decide +kernel
theorem dX8_findBound_113 : decode cX8_findBound 113 = .ok (.getfield 67, 3) := by decide +kernel
theorem dX8_findBound_116 : decode cX8_findBound 116 = .ok (.iconst 4, 1) := by decide +kernel
theorem dX8_findBound_117 : decode cX8_findBound 117 = .ok (.aload_n 0, 1) := by decide +kernel
theorem dX8_findBound_118 : decode cX8_findBound 118 = .ok (.getfield 134, 3) := by decide +kernel
theorem dX8_findBound_121 : decode cX8_findBound 121 = .ok (.aload_n 0, 1) := by decide +kernel
theorem dX8_findBound_122 : decode cX8_findBound 122 = .ok (.getfield 49, 3) := by decide +kernel
theorem dX8_findBound_125 : decode cX8_findBound 125 = .ok (.aload_n 0, 1) := by decide +kernel
theorem dX8_findBound_126 : decode cX8_findBound 126 = .ok (.getfield 140, 3) := by decide +kernel
theorem dX8_findBound_129 : decode cX8_findBound 129 = .ok (.iaload, 1) := by decide +kernel
theorem dX8_findBound_130 : decode cX8_findBound 130 = .ok (.isub, 1) := by decide +kernel
theorem dX8_findBound_131 : decode cX8_findBound 131 = .ok (.iastore, 1) := by decide +kernel
theorem dX8_findBound_132 : decode cX8_findBound 132 = .ok (.return_, 1) := by decide +kernel
theorem fb_none {B : Bk} {K F : Nat → Nat} {D : Mem} {L : List Nat} {ML : List (Nat × Nat)} {e tp : Nat} (hV : VB B) (hPB : PDB B) (h : RB D B (th_ B) K F) (hL : LT D L) (htop : D 104 21 = nI tp) (htp : tp ≤ 6) (hg : LBG B L ML e) {D1 : Mem} {t j : Nat} (ht : t + 1 ≤ tp) (h1 : D 122 (t + 1) = -9) (hq : Fq FBQ D D1) (hs : FBS B L ML e j D1) {Q : List Value → Wd → Prop} (hk : ∀ D2, Fq FBQ D D2 → FBS B L ML e j D2 → X 3 138 j_X8_findBound 30 [some (.ref 104), some (.int (nI (t + 1 + 1)))] [] (138, P0, D2) Q) : X 3 138 j_X8_findBound 30 [some (.ref 104), some (.int (nI (t + 1)))] [] (138, P0, D1) Q := by
  refine X_iload_n (nx := 31) dX8_findBound_30 rfl rfl rfl ?_
  refine X_aload_n (nx := 32) dX8_findBound_31 rfl rfl rfl ?_
  refine M_getI (nx := 35) dX8_findBound_32 rfl fl_RX8_140 rfl (by first | assumption | rfl | decide | omega) (by first | assumption | rfl | decide | omega) ?_
  refine X_top ((hq 104 21 (by unfold FBQ; omega)).trans htop) ?_
  refine X_icmp_gt (tgt := 84) (nx := 38) dX8_findBound_35 rfl rfl (fun h35 => ?_) (fun h35 => ?_)
  · exact absurd h35 (nI_nlt (by omega) (by omega))
  · skip
    refine X_aload_n (nx := 39) dX8_findBound_38 rfl rfl rfl ?_
    refine M_getP (nx := 42) dX8_findBound_39 rfl fl_RX8_61 rfl (by first | assumption | rfl | decide | omega) (by first | assumption | rfl | decide | omega) (by first | assumption | rfl | decide | omega) ?_
    refine X_iload_n (nx := 43) dX8_findBound_42 rfl rfl rfl ?_
    refine M_ld (a := 122) (L := 16) (nx := 44) dX8_findBound_43 rfl (by decide) (by decide) rfl (by decide) (by omega) ((hq 122 _ (by unfold FBQ; omega)).trans h1) ?_
    refine X_if_ge (tgt := 50) (nx := 47) dX8_findBound_44 rfl rfl (fun h44 => ?_) (fun h44 => ?_)
    · exact absurd h44 (by decide)
    · skip
      refine X_goto (tgt := 78) dX8_findBound_47 rfl ?_
      refine X_iinc (nx := 81) dX8_findBound_78 rfl (by decide) rfl (ii1 _) rfl (st_s (st_0)) ?_
      refine X_goto (tgt := 30) dX8_findBound_81 rfl ?_
      exact hk D1 hq hs
theorem fb_some {B : Bk} {K F : Nat → Nat} {D : Mem} {L : List Nat} {ML : List (Nat × Nat)} {e tp : Nat} (hV : VB B) (hPB : PDB B) (h : RB D B (th_ B) K F) (hL : LT D L) (htop : D 104 21 = nI tp) (htp : tp ≤ 6) (hg : LBG B L ML e) {D1 : Mem} {t j i root : Nat} (ht : t + 1 ≤ tp) (h1 : D 122 (t + 1) = nI i) (hic : i < cm_ B) (hrt : D 119 t = nI root) (hrb : root + pl (sg_ B i) ≤ L.length) (hl1 : lbSt ML j = root) (hl2 : lbR ML e j = i) (hj : j < 100) (hq : Fq FBQ D D1) (hs : FBS B L ML e j D1) {Q : List Value → Wd → Prop} (hk : ∀ D2, Fq FBQ D D2 → FBS B L ML e (j + 1) D2 → X 3 138 j_X8_findBound 30 [some (.ref 104), some (.int (nI (t + 1 + 1)))] [] (138, P0, D2) Q) : X 3 138 j_X8_findBound 30 [some (.ref 104), some (.int (nI (t + 1)))] [] (138, P0, D1) Q := by
  have hcm := hV.2.1
  refine X_iload_n (nx := 31) dX8_findBound_30 rfl rfl rfl ?_
  refine X_aload_n (nx := 32) dX8_findBound_31 rfl rfl rfl ?_
  refine M_getI (nx := 35) dX8_findBound_32 rfl fl_RX8_140 rfl (by first | assumption | rfl | decide | omega) (by first | assumption | rfl | decide | omega) ?_
  refine X_top ((hq 104 21 (by unfold FBQ; omega)).trans htop) ?_
  refine X_icmp_gt (tgt := 84) (nx := 38) dX8_findBound_35 rfl rfl (fun h35 => ?_) (fun h35 => ?_)
  · exact absurd h35 (nI_nlt (by omega) (by omega))
  · skip
    refine X_aload_n (nx := 39) dX8_findBound_38 rfl rfl rfl ?_
    refine M_getP (nx := 42) dX8_findBound_39 rfl fl_RX8_61 rfl (by first | assumption | rfl | decide | omega) (by first | assumption | rfl | decide | omega) (by first | assumption | rfl | decide | omega) ?_
    refine X_iload_n (nx := 43) dX8_findBound_42 rfl rfl rfl ?_
    refine M_ld (a := 122) (L := 16) (nx := 44) dX8_findBound_43 rfl (by decide) (by decide) rfl (by decide) (by omega) ((hq 122 _ (by unfold FBQ; omega)).trans h1) ?_
    refine X_if_ge (tgt := 50) (nx := 47) dX8_findBound_44 rfl rfl (fun h44 => ?_) (fun h44 => ?_)
    · skip
      refine X_aload_n (nx := 51) dX8_findBound_50 rfl rfl rfl ?_
      refine X_aload_n (nx := 52) dX8_findBound_51 rfl rfl rfl ?_
      refine M_getP (nx := 55) dX8_findBound_52 rfl fl_RX8_61 rfl (by first | assumption | rfl | decide | omega) (by first | assumption | rfl | decide | omega) (by first | assumption | rfl | decide | omega) ?_
      refine X_iload_n (nx := 56) dX8_findBound_55 rfl rfl rfl ?_
      refine M_ld (a := 122) (L := 16) (nx := 57) dX8_findBound_56 rfl (by decide) (by decide) rfl (by decide) (by omega) ((hq 122 _ (by unfold FBQ; omega)).trans h1) ?_
      refine X_aload_n (nx := 58) dX8_findBound_57 rfl rfl rfl ?_
      refine M_getP (nx := 61) dX8_findBound_58 rfl fl_RX8_52 rfl (by first | assumption | rfl | decide | omega) (by first | assumption | rfl | decide | omega) (by first | assumption | rfl | decide | omega) ?_
      refine X_iload_n (nx := 62) dX8_findBound_61 rfl rfl rfl ?_
      refine X_iconst (v := nI 1) (nx := 63) dX8_findBound_62 rfl rfl ?_
      refine X_isub (nx := 64) dX8_findBound_63 rfl ?_
      refine X_top (show _ = nI t from (by rw [sub_nI (by omega)]; rfl)) ?_
      refine M_ld (a := 119) (L := 16) (nx := 65) dX8_findBound_64 rfl (by decide) (by decide) rfl (by decide) (by omega) ((hq 119 _ (by unfold FBQ; omega)).trans hrt) ?_
      refine Z_Vv2 (nx := 68) dX8_findBound_65 rfl ml_RX8_201 kj_X8_bindsBy kv_X8_bindsBy (sp_X8_bindsBy (r := i) (L := L) (h.fq (hq.mono (fun b i q => by unfold FBQ at q; unfold SCR; omega))) hV (hPB i hic) (hL.fq (hq 104 11 (by unfold FBQ; omega)) (hq.row (fun i => by unfold FBQ; omega))) rfl hic rfl hrb) (by first | assumption | rfl | decide | omega) (by first | assumption | rfl | decide | omega) (by decide) rfl (by first | decide | omega) (by exact Nat.le_of_ble_eq_true rfl) (fun D65 g65 => ?_)
      refine X_aload_n (nx := 69) dX8_findBound_68 rfl rfl rfl ?_
      refine M_getP (nx := 72) dX8_findBound_69 rfl fl_RX8_67 rfl (by first | assumption | rfl | decide | omega) (by first | assumption | rfl | decide | omega) (by first | assumption | rfl | decide | omega) ?_
      refine X_iconst (v := nI 5) (nx := 73) dX8_findBound_72 rfl rfl ?_
      refine X_dup2 (nx := 74) dX8_findBound_73 rfl rfl rfl ?_
      refine M_ld (a := 124) (L := 6) (nx := 75) dX8_findBound_74 rfl (by decide) (by decide) rfl (by decide) (by omega) ((g65.2 124 5 (by omega)).trans hs.2.2) ?_
      refine X_iconst (v := 1) (nx := 76) dX8_findBound_75 rfl rfl ?_
      refine X_iadd (nx := 77) dX8_findBound_76 rfl ?_
      refine X_top (nI_1 _) ?_
      refine M_st (a := 124) (L := 6) (nx := 78) dX8_findBound_77 rfl (by decide) (by decide) rfl (by decide) (by omega) ?_
      refine X_iinc (nx := 81) dX8_findBound_78 rfl (by decide) rfl (ii1 _) rfl (st_s (st_0)) ?_
      refine X_goto (tgt := 30) dX8_findBound_81 rfl ?_
      refine hk _ ((hq.tr (g65.2.mono (fun b i q => by unfold FBQ; omega))).tr (Fq.up (by unfold FBQ; omega))) ⟨fun k hk2 => ?_, ?_, up2_same⟩
      · rw [up2_other (by omega), g65.1 k hk2, hs.1 k hk2, lbA_s hl2 hl1]
      · rw [up2_other (by omega), g65.2 124 4 (by omega)]; exact hs.2.1
    · exact absurd h44 (fun q => q (nI_pos' (by omega)))
theorem fb_all {B : Bk} {K F : Nat → Nat} {D : Mem} {L : List Nat} {ML : List (Nat × Nat)} {e tp : Nat} (hV : VB B) (hPB : PDB B) (h : RB D B (th_ B) K F) (hL : LT D L) (htop : D 104 21 = nI tp) (htp : tp ≤ 6) (hg : LBG B L ML e) {Q : List Value → Wd → Prop} : ∀ (t : Nat) (ml rest : List (Nat × Nat)), t ≤ tp → VIA D t ml → ML = ml ++ rest → ml.length ≤ 50 → (∀ D2, Fq FBQ D D2 → FBS B L ML e ml.length D2 → X 3 138 j_X8_findBound 30 [some (.ref 104), some (.int (nI (t + 1)))] [] (138, P0, D2) Q) → ∀ D1, Fq FBQ D D1 → FBS B L ML e 0 D1 → X 3 138 j_X8_findBound 30 [some (.ref 104), some (.int (nI 1))] [] (138, P0, D1) Q := by
  intro t
  induction t with
  | zero =>
    intro ml rest ht hv hm hl hk D1 hq hs
    obtain ⟨rfl, _⟩ := hv
    exact hk D1 hq hs
  | succ t ih =>
    intro ml rest ht hv hm hl hk D1 hq hs
    have hv0 := hv
    rcases hv with ⟨h1, h2, h3⟩ | ⟨ml', i, a, h1, h2, h3, h4, h5⟩
    · exact ih ml rest (by omega) h3 hm hl (fun D2 q2 s2 => fb_none hV hPB h hL htop htp hg ht h1 q2 s2 hk) D1 hq hs
    · subst h1
      rw [List.length_append, List.length_singleton] at hl
      have hM : ML = ml' ++ (i, a) :: rest := by rw [hm, List.append_assoc]; rfl
      have hp := lb_pre (ml := ml') (rest := rest) (i := i) (a := a)
      rw [← hM] at hp
      have hlen : ml'.length ≤ ML.length := by rw [hM, List.length_append]; omega
      have hgi := hg ml'.length hlen
      rw [hp.2 e, hp.1] at hgi
      refine ih ml' ((i, a) :: rest) (by omega) h5 hM (by omega) (fun D2 q2 s2 => ?_) D1 hq hs
      refine fb_some hV hPB h hL htop htp hg ht h3 hgi.1 (VIA_root h5) hgi.2 hp.1 (hp.2 e) (by omega) q2 s2 (fun D3 q3 s3 => ?_)
      exact hk D3 q3 (by rw [List.length_append, List.length_singleton]; exact s3)
/-- what findBound leaves -/
def FBR (B : Bk) (L : List Nat) (ML : List (Nat × Nat)) (e kk : Nat) (D D' : Mem) : Prop := Fq FBQ D D' ∧ (∀ k, k < 4 → D' 124 k = lbA B L ML e k (ML.length + 1)) ∧ D' 124 5 = nI ML.length ∧ D' 124 4 = if rsB B e = true then nI kk else -9
theorem lbR_end {ML : List (Nat × Nat)} {e : Nat} : lbR ML e ML.length = e := if_neg (Nat.lt_irrefl _)
theorem lp_fb_init {D : Mem} {Q : List Value → Wd → Prop} (hk : ∀ D2, Fq FBQ D D2 → (∀ j, j < 5 → D2 124 j = -9) → X 3 138 j_X8_findBound 21 [some (.ref 104), none] [] (138, P0, D2) Q) : ∀ (m : Nat) (i : Nat) (D1 : Mem), i + m = 5 → Fq FBQ D D1 → (∀ j, j < i → D1 124 j = -9) → X 3 138 j_X8_findBound 2 [some (.ref 104), some (.int (nI i))] [] (138, P0, D1) (Q) := by
  intro m
  induction m with
  | zero =>
    intro i D1 hi hq hl
    refine X_iload_n (nx := 3) dX8_findBound_2 rfl rfl rfl ?_
    refine X_iconst (v := nI 5) (nx := 4) dX8_findBound_3 rfl rfl ?_
    refine X_icmp_ge (tgt := 21) (nx := 7) dX8_findBound_4 rfl rfl (fun h4 => ?_) (fun h4 => ?_)
    · skip
      obtain rfl : i = 5 := (by omega)
      exact X_fg2o (hk D1 hq hl)
    · exact absurd h4 (fun q => q (nI_le (by omega) (by omega)))
  | succ m ih =>
    intro i D1 hi hq hl
    refine X_iload_n (nx := 3) dX8_findBound_2 rfl rfl rfl ?_
    refine X_iconst (v := nI 5) (nx := 4) dX8_findBound_3 rfl rfl ?_
    refine X_icmp_ge (tgt := 21) (nx := 7) dX8_findBound_4 rfl rfl (fun h4 => ?_) (fun h4 => ?_)
    · exact absurd h4 (nI_ge (by omega) (by omega))
    · skip
      refine X_aload_n (nx := 8) dX8_findBound_7 rfl rfl rfl ?_
      refine M_getP (nx := 11) dX8_findBound_8 rfl fl_RX8_67 rfl (by first | assumption | rfl | decide | omega) (by first | assumption | rfl | decide | omega) (by first | assumption | rfl | decide | omega) ?_
      refine X_iload_n (nx := 12) dX8_findBound_11 rfl rfl rfl ?_
      refine X_bipush (v := -9) (nx := 14) dX8_findBound_12 rfl rfl ?_
      refine M_st (a := 124) (L := 6) (nx := 15) dX8_findBound_14 rfl (by decide) (by decide) rfl (by decide) (by omega) ?_
      refine X_iinc (nx := 18) dX8_findBound_15 rfl (by decide) rfl (by first | exact ii1 _ | rfl) rfl (st_s (st_0)) ?_
      refine X_goto (tgt := 2) dX8_findBound_18 rfl ?_
      refine ih (i + 1) _ (by omega) (hq.tr (Fq.up (by unfold FBQ; omega))) (fun j hj => ?_)
      by_cases e : j = i
      · subst e; exact up2_same
      · rw [up2_other (by omega)]; exact hl j (by omega)
theorem sp_X8_findBound {B : Bk} {K F : Nat → Nat} {D : Mem} {L : List Nat} {ML : List (Nat × Nat)} {e tp kk : Nat} (hV : VB B) (hPB : PDB B) (h : RB D B (th_ B) K F) (hL : LT D L) (htop : D 104 21 = nI tp) (htp : tp ≤ 6) (hg : LBG B L ML e) (hv : VIA D tp ML) (hml : ML.length ≤ 6) (hfd : D 104 23 = nI e) (hpl : D 118 tp = nI (L.length - kk)) (hkk : kk ≤ L.length) : Rvx 3 j_X8_findBound [.ref 104] D (fun D' => FBR B L ML e kk D D') := by
  refine E.start 1 (ls := [some (.ref 104), none]) (by decide +kernel) (Nat.le_of_ble_eq_true rfl) rfl (Nat.le_refl _) (Nat.le_refl _) ?_
  refine X_iconst (v := nI 0) (nx := 1) dX8_findBound_0 rfl rfl ?_
  refine X_istore_n (i := 1) (nx := 2) dX8_findBound_1 rfl rfl (by decide) rfl (st_s (st_0)) ?_
  refine lp_fb_init (fun D2 q2 l2 => ?_) 5 0 D rfl Fq.rf (fun j hj => absurd hj (Nat.not_lt_zero _))
  have hgE := hg ML.length (Nat.le_refl _)
  rw [lbR_end] at hgE
  obtain ⟨hec, hre⟩ := hgE
  have hcm := hV.2.1
  refine X_aload_n (nx := 22) dX8_findBound_21 rfl rfl rfl ?_
  refine M_getP (nx := 25) dX8_findBound_22 rfl fl_RX8_67 rfl (by first | assumption | rfl | decide | omega) (by first | assumption | rfl | decide | omega) (by first | assumption | rfl | decide | omega) ?_
  refine X_iconst (v := nI 5) (nx := 26) dX8_findBound_25 rfl rfl ?_
  refine X_iconst (v := 0) (nx := 27) dX8_findBound_26 rfl rfl ?_
  refine M_st (a := 124) (L := 6) (nx := 28) dX8_findBound_27 rfl (by decide) (by decide) rfl (by decide) (by omega) ?_
  refine X_iconst (v := nI 1) (nx := 29) dX8_findBound_28 rfl rfl ?_
  refine X_istore_n (i := 1) (nx := 30) dX8_findBound_29 rfl rfl (by decide) rfl (st_s (st_0)) ?_
  refine fb_all hV hPB h hL htop htp hg tp ML [] (Nat.le_refl _) hv (List.append_nil _).symm (by omega) (fun D3 hq hs => ?_) _ (q2.tr (Fq.up (by unfold FBQ; omega))) ⟨fun k hk2 => by rw [up2_other (by omega), l2 k (by omega)]; rfl, by rw [up2_other (by omega), l2 4 (by omega)], up2_same⟩
  have hB9 : RB D3 B (th_ B) K F := h.fq (hq.mono (fun b i q => by unfold FBQ at q; unfold SCR; omega))
  have hL9 : LT D3 L := hL.fq (hq 104 11 (by unfold FBQ; omega)) (hq.row (fun i => by unfold FBQ; omega))
  have hLL := hL.2.2.1
  refine X_iload_n (nx := 31) dX8_findBound_30 rfl rfl rfl ?_
  refine X_aload_n (nx := 32) dX8_findBound_31 rfl rfl rfl ?_
  refine M_getI (nx := 35) dX8_findBound_32 rfl fl_RX8_140 rfl (by first | assumption | rfl | decide | omega) (by first | assumption | rfl | decide | omega) ?_
  refine X_top ((hq 104 21 (by unfold FBQ; omega)).trans htop) ?_
  refine X_icmp_gt (tgt := 84) (nx := 38) dX8_findBound_35 rfl rfl (fun h35 => ?_) (fun h35 => ?_)
  · skip
    refine X_aload_n (nx := 85) dX8_findBound_84 rfl rfl rfl ?_
    refine X_aload_n (nx := 86) dX8_findBound_85 rfl rfl rfl ?_
    refine M_getI (nx := 89) dX8_findBound_86 rfl fl_RX8_185 rfl (by first | assumption | rfl | decide | omega) (by first | assumption | rfl | decide | omega) ?_
    refine X_top ((hq 104 23 (by unfold FBQ; omega)).trans hfd) ?_
    refine X_aload_n (nx := 90) dX8_findBound_89 rfl rfl rfl ?_
    refine M_getP (nx := 93) dX8_findBound_90 rfl fl_RX8_52 rfl (by first | assumption | rfl | decide | omega) (by first | assumption | rfl | decide | omega) (by first | assumption | rfl | decide | omega) ?_
    refine X_aload_n (nx := 94) dX8_findBound_93 rfl rfl rfl ?_
    refine M_getI (nx := 97) dX8_findBound_94 rfl fl_RX8_140 rfl (by first | assumption | rfl | decide | omega) (by first | assumption | rfl | decide | omega) ?_
    refine X_top ((hq 104 21 (by unfold FBQ; omega)).trans htop) ?_
    refine M_ld (a := 119) (L := 16) (nx := 98) dX8_findBound_97 rfl (by decide) (by decide) rfl (by decide) (by omega) ((hq 119 _ (by unfold FBQ; omega)).trans (VIA_root hv)) ?_
    refine Z_Vv2 (nx := 101) dX8_findBound_98 rfl ml_RX8_201 kj_X8_bindsBy kv_X8_bindsBy (sp_X8_bindsBy (r := e) (L := L) hB9 hV (hPB e hec) hL9 rfl hec rfl hre) (by first | assumption | rfl | decide | omega) (by first | assumption | rfl | decide | omega) (by decide) rfl (by first | decide | omega) (by exact Nat.le_of_ble_eq_true rfl) (fun D98 g98 => ?_)
    have hq9 : Fq FBQ D D98 := hq.tr (g98.2.mono (fun b i q => by unfold FBQ; omega))
    refine X_aload_n (nx := 102) dX8_findBound_101 rfl rfl rfl ?_
    refine X_aload_n (nx := 103) dX8_findBound_102 rfl rfl rfl ?_
    refine M_getI (nx := 106) dX8_findBound_103 rfl fl_RX8_185 rfl (by first | assumption | rfl | decide | omega) (by first | assumption | rfl | decide | omega) ?_
    refine X_top ((hq9 104 23 (by unfold FBQ; omega)).trans hfd) ?_
    refine Y_Vi1 (nx := 109) dX8_findBound_106 rfl ml_RX8_149 kj_X8_hasRest kv_X8_hasRest (sp_X8_hasRest (h.fq (hq9.mono (fun b i q => by unfold FBQ at q; unfold SCR; omega))) hV rfl hec) (by first | assumption | rfl | decide | omega) (by first | assumption | rfl | decide | omega) (by decide) rfl (by first | decide | omega) (by exact Nat.le_of_ble_eq_true rfl) ?_
    refine X_if_eq (tgt := 132) (nx := 112) dX8_findBound_109 rfl rfl (fun h109 => ?_) (fun h109 => ?_)
    · skip
      exact Z_retv dX8_findBound_132 rfl (by
        first
        | (have e9 := b2i_f.mp h109
           exact ⟨hq9, fun k hk2 => by rw [g98.1 k hk2, hs.1 k hk2, lbA_s lbR_end rfl], by rw [g98.2 124 5 (by omega)]; exact hs.2.2, by rw [if_neg (by rw [e9]; decide), g98.2 124 4 (by omega)]; exact hs.2.1⟩)
        | (have e9 := b2i_t.mp h109
           exact ⟨hq9.tr (Fq.up (by unfold FBQ; omega)), fun k hk2 => by rw [up2_other (by omega), g98.1 k hk2, hs.1 k hk2, lbA_s lbR_end rfl], by rw [up2_other (by omega), g98.2 124 5 (by omega)]; exact hs.2.2, by rw [if_pos e9]; exact up2_same⟩))
    · skip
      refine X_aload_n (nx := 113) dX8_findBound_112 rfl rfl rfl ?_
      refine M_getP (nx := 116) dX8_findBound_113 rfl fl_RX8_67 rfl (by first | assumption | rfl | decide | omega) (by first | assumption | rfl | decide | omega) (by first | assumption | rfl | decide | omega) ?_
      refine X_iconst (v := nI 4) (nx := 117) dX8_findBound_116 rfl rfl ?_
      refine X_aload_n (nx := 118) dX8_findBound_117 rfl rfl rfl ?_
      refine M_getI (nx := 121) dX8_findBound_118 rfl fl_RX8_134 rfl (by first | assumption | rfl | decide | omega) (by first | assumption | rfl | decide | omega) ?_
      refine X_top ((hq9 104 11 (by unfold FBQ; omega)).trans hL.1) ?_
      refine X_aload_n (nx := 122) dX8_findBound_121 rfl rfl rfl ?_
      refine M_getP (nx := 125) dX8_findBound_122 rfl fl_RX8_49 rfl (by first | assumption | rfl | decide | omega) (by first | assumption | rfl | decide | omega) (by first | assumption | rfl | decide | omega) ?_
      refine X_aload_n (nx := 126) dX8_findBound_125 rfl rfl rfl ?_
      refine M_getI (nx := 129) dX8_findBound_126 rfl fl_RX8_140 rfl (by first | assumption | rfl | decide | omega) (by first | assumption | rfl | decide | omega) ?_
      refine X_top ((hq9 104 21 (by unfold FBQ; omega)).trans htop) ?_
      refine M_ld (a := 118) (L := 16) (nx := 130) dX8_findBound_129 rfl (by decide) (by decide) rfl (by decide) (by omega) ((hq9 118 _ (by unfold FBQ; omega)).trans hpl) ?_
      refine X_isub (nx := 131) dX8_findBound_130 rfl ?_
      refine X_top (show _ = nI kk from (by rw [sub_nI (by omega), show L.length - (L.length - kk) = kk by omega])) ?_
      refine M_st (a := 124) (L := 6) (nx := 132) dX8_findBound_131 rfl (by decide) (by decide) rfl (by decide) (by omega) ?_
      exact Z_retv dX8_findBound_132 rfl (by
        first
        | (have e9 := b2i_f.mp h109
           exact ⟨hq9, fun k hk2 => by rw [g98.1 k hk2, hs.1 k hk2, lbA_s lbR_end rfl], by rw [g98.2 124 5 (by omega)]; exact hs.2.2, by rw [if_neg (by rw [e9]; decide), g98.2 124 4 (by omega)]; exact hs.2.1⟩)
        | (have e9 := b2i_t.mp h109
           exact ⟨hq9.tr (Fq.up (by unfold FBQ; omega)), fun k hk2 => by rw [up2_other (by omega), g98.1 k hk2, hs.1 k hk2, lbA_s lbR_end rfl], by rw [up2_other (by omega), g98.2 124 5 (by omega)]; exact hs.2.2, by rw [if_pos e9]; exact up2_same⟩))
  · exact absurd h35 (fun q => q (nI_lt (by omega) (by omega)))
theorem VIA_len {D : Mem} : ∀ {t : Nat} {ml : List (Nat × Nat)}, VIA D t ml → ml.length ≤ t := by
  intro t
  induction t with
  | zero => intro ml h; obtain ⟨rfl, _⟩ := h; exact Nat.le_refl _
  | succ t ih =>
    intro ml h
    rcases h with ⟨_, _, h3⟩ | ⟨ml', i, a, h1, _, _, _, h5⟩
    · have := ih h3; omega
    · have := ih h5
      subst h1
      rw [List.length_append, List.length_singleton]; omega
theorem mo_all {D D' : Mem} {S : St} {v p : Nat} {u : Int32} (g : BR2 (bk S) (th_ (bk S)) (kd_ (bk S)) (fg_ (bk S)) v p D u D') (hu : ¬ u < 0) : ∃ e ml k, (MT S v p).1 = some (e, ml, k) ∧ u = nI e ∧ ml.length ≤ 6 ∧ LBG (bk S) (pathL p) ml e ∧ k ≤ (pathL p).length ∧ ∃ t, D' 104 21 = nI t ∧ t ≤ 6 ∧ VIA D' t ml ∧ D' 118 t = nI ((pathL p).length - k) := by
  obtain ⟨e0, he0, hu0, _⟩ := br_yes g hu
  unfold mtE at he0
  cases hm : (mt (bk S) (wT (bk S) (th_ (bk S))) v p (kd_ (bk S)) (fg_ (bk S))).1 with
  | none => rw [hm] at he0; cases he0
  | some z =>
    obtain ⟨e, ml, k⟩ := z
    rw [hm] at he0
    cases he0
    obtain ⟨st, q1, q2, q3, q4, q5⟩ := mt_geo e ml k hm
    obtain ⟨k1, k2, k3⟩ := g.2.2.2.2.2 e ml k hm
    have hg := lbg_of (w := 0) (t := 0) q1 q3 q4
    obtain ⟨t', t1, t2, t3, t4⟩ := k3
    exact ⟨e, ml, k, hm, hu0, Nat.le_trans (VIA_len t3) t2, hg, k1, t', t1, t2, t3, t4⟩
theorem dX8_bound_0 : decode cX8_bound 0 = .ok (.aload_n 0, 1) := by decide +kernel
theorem dX8_bound_1 : decode cX8_bound 1 = .ok (.iload_n 1, 1) := by decide +kernel
theorem dX8_bound_2 : decode cX8_bound 2 = .ok (.iload_n 2, 1) := by decide +kernel
theorem dX8_bound_3 : decode cX8_bound 3 = .ok (.invokevirtual 311, 3) := by decide +kernel
theorem dX8_bound_6 : decode cX8_bound 6 = .ok (.istore 4, 2) := by decide +kernel
theorem dX8_bound_8 : decode cX8_bound 8 = .ok (.iload 4, 2) := by decide +kernel
theorem dX8_bound_10 : decode cX8_bound 10 = .ok (.ifCond .ne 16, 3) := by decide +kernel
theorem dX8_bound_13 : decode cX8_bound 13 = .ok (.iload_n 3, 1) := by decide +kernel
theorem dX8_bound_14 : decode cX8_bound 14 = .ok (.iconst 0, 1) := by decide +kernel
theorem dX8_bound_15 : decode cX8_bound 15 = .ok (.iconst 5, 1) := by decide +kernel
theorem dX8_bound_16 : decode cX8_bound 16 = .ok (.invokestatic 115, 3) := by decide +kernel
theorem dX8_bound_19 : decode cX8_bound 19 = .ok (.ifCond .ne 7, 3) := by decide +kernel
theorem dX8_bound_22 : decode cX8_bound 22 = .ok (.bipush (-2), 2) := by decide +kernel
theorem dX8_bound_24 : decode cX8_bound 24 = .ok (.istore 4, 2) := by decide +kernel
theorem dX8_bound_26 : decode cX8_bound 26 = .ok (.iload 4, 2) := by decide +kernel
theorem dX8_bound_28 : decode cX8_bound 28 = .ok (.ifCond .ne 16, 3) := by decide +kernel
theorem dX8_bound_31 : decode cX8_bound 31 = .ok (.aload_n 0, 1) := by decide +kernel
theorem dX8_bound_32 : decode cX8_bound 32 = .ok (.iload_n 1, 1) := by decide +kernel
theorem dX8_bound_33 : decode cX8_bound 33 = .ok (.iload_n 2, 1) := by decide +kernel
theorem dX8_bound_34 : decode cX8_bound 34 = .ok (.invokevirtual 314, 3) := by decide +kernel
theorem dX8_bound_37 : decode cX8_bound 37 = .ok (.ifCond .ge 7, 3) := by decide +kernel
theorem dX8_bound_40 : decode cX8_bound 40 = .ok (.bipush (-3), 2) := by decide +kernel
theorem dX8_bound_42 : decode cX8_bound 42 = .ok (.istore 4, 2) := by decide +kernel
theorem dX8_bound_44 : decode cX8_bound 44 = .ok (.iload 4, 2) := by decide +kernel
theorem dX8_bound_46 : decode cX8_bound 46 = .ok (.ifCond .eq 10, 3) := by decide +kernel
theorem dX8_bound_49 : decode cX8_bound 49 = .ok (.aload_n 0, 1) := by decide +kernel
theorem dX8_bound_50 : decode cX8_bound 50 = .ok (.iload 4, 2) := by decide +kernel
theorem dX8_bound_52 : decode cX8_bound 52 = .ok (.invokevirtual 211, 3) := by decide +kernel
theorem dX8_bound_55 : decode cX8_bound 55 = .ok (.ireturn, 1) := by decide +kernel
theorem dX8_bound_56 : decode cX8_bound 56 = .ok (.aload_n 0, 1) := by decide +kernel
theorem dX8_bound_57 : decode cX8_bound 57 = .ok (.invokevirtual 317, 3) := by decide +kernel
theorem dX8_bound_60 : decode cX8_bound 60 = .ok (.aload_n 0, 1) := by decide +kernel
theorem dX8_bound_61 : decode cX8_bound 61 = .ok (.getfield 67, 3) := by decide +kernel
theorem dX8_bound_64 : decode cX8_bound 64 = .ok (.iload_n 3, 1) := by decide +kernel
theorem dX8_bound_65 : decode cX8_bound 65 = .ok (.iaload, 1) := by decide +kernel
theorem dX8_bound_66 : decode cX8_bound 66 = .ok (.ireturn, 1) := by decide +kernel
theorem brg2_none {D D' : Mem} {S : St} {v p : Nat} {u : Int32} (g : BR2 (bk S) (th_ (bk S)) (kd_ (bk S)) (fg_ (bk S)) v p D u D') (hu : u < 0) : (MT S v p).1 = none := by
  have h := br_no g hu
  unfold mtE at h
  cases hm : (mt (bk S) (wT (bk S) (th_ (bk S))) v p (kd_ (bk S)) (fg_ (bk S))).1 with
  | none => exact hm
  | some z => rw [hm] at h; cases h
theorem sp_X8_bound {x y z : Int32} {S : St} {D : Mem} (h : INV2 D S) (hw : WF S) : Rix 6 j_X8_bound [.ref 104, .int x, .int y, .int z] D (fun u D' => CK2 D (m_bound S x y z) u D') := by
  refine E.start 1 (ls := [some (.ref 104), some (.int x), some (.int y), some (.int z), none]) (by decide +kernel) (Nat.le_of_ble_eq_true rfl) rfl (Nat.le_refl _) (Nat.le_refl _) ?_
  have hcm := hw.1.2.1
  have hB2 := h.1.2.1
  refine X_aload_n (nx := 1) dX8_bound_0 rfl rfl rfl ?_
  refine X_iload_n (nx := 2) dX8_bound_1 rfl rfl rfl ?_
  refine X_iload_n (nx := 3) dX8_bound_2 rfl rfl rfl ?_
  refine Y_Vi2 (nx := 6) dX8_bound_3 rfl ml_RX8_311 kj_X8_notAsked kv_X8_notAsked (sp_X8_notAsked) (by first | assumption | rfl | decide | omega) (by first | assumption | rfl | decide | omega) (by decide) rfl (by first | decide | omega) (by exact Nat.le_of_ble_eq_true rfl) ?_
  by_cases q1 : ¬ decide (0 ≤ x ∧ x < 341) = true
  · rw [if_pos q1]
    refine X_istore (i := 4) (nx := 8) dX8_bound_6 rfl (by decide) rfl (st_s (st_s (st_s (st_s (st_0))))) ?_
    refine X_iload (nx := 10) dX8_bound_8 rfl rfl ?_
    refine X_if_ne (tgt := 26) (nx := 13) dX8_bound_10 rfl rfl (fun h10 => ?_) (fun h10 => ?_)
    · skip
      refine X_iload (nx := 28) dX8_bound_26 rfl rfl ?_
      refine X_if_ne (tgt := 44) (nx := 31) dX8_bound_28 rfl rfl (fun h28 => ?_) (fun h28 => ?_)
      · skip
        refine X_iload (nx := 46) dX8_bound_44 rfl rfl ?_
        refine X_if_eq (tgt := 56) (nx := 49) dX8_bound_46 rfl rfl (fun h46 => ?_) (fun h46 => ?_)
        · exact absurd h46 (by decide)
        · skip
          refine X_aload_n (nx := 50) dX8_bound_49 rfl rfl rfl ?_
          refine X_iload (nx := 52) dX8_bound_50 rfl rfl ?_
          refine Y_Vi1 (nx := 55) dX8_bound_52 rfl ml_RX8_211 kj_X8_no kv_X8_no (by first | exact sp_X8_no (k := 1) rfl (by omega) (by omega) | exact sp_X8_no (k := 2) rfl (by omega) (by omega) | exact sp_X8_no (k := 3) rfl (by omega) (by omega)) (by first | assumption | rfl | decide | omega) (by first | assumption | rfl | decide | omega) (by decide) rfl (by first | decide | omega) (by exact Nat.le_of_ble_eq_true rfl) ?_
          exact Z_reti dX8_bound_55 (Or.inl rfl) (by
            unfold m_bound
            first
            | (rw [if_neg q1]; exact ck2_no (k := 1) h Fr.rf (by omega) (by omega))
            | (rw [if_pos c1, if_neg (fun q => n19 (decide_eq_true ⟨q.2.1, (le_ltI z (n := 5) (by decide)).mp q.2.2⟩))]; exact ck2_no (k := 2) h Fr.rf (by omega) (by omega))
            | (rw [if_pos c1, if_pos ⟨c2, (of_decide_eq_true c19).1, (le_ltI z (n := 5) (by decide)).mpr (of_decide_eq_true c19).2⟩, kp, kv, hno]; exact ck2_no (k := 3) hi1.1 hi1.2 (by omega) (by omega))
            | (rw [if_pos c1, if_neg (fun q => q2 q.1)]; exact ck2_no (k := 2) h Fr.rf (by omega) (by omega)))
      · exact absurd h28 (by decide)
    · exact absurd h10 (by decide)
  · rw [if_neg q1]
    have c1 := Decidable.not_not.mp q1
    by_cases q2 : ¬ decide (0 ≤ y ∧ y < 4) = true
    · rw [if_pos q2]
      refine X_istore (i := 4) (nx := 8) dX8_bound_6 rfl (by decide) rfl (st_s (st_s (st_s (st_s (st_0))))) ?_
      refine X_iload (nx := 10) dX8_bound_8 rfl rfl ?_
      refine X_if_ne (tgt := 26) (nx := 13) dX8_bound_10 rfl rfl (fun h10 => ?_) (fun h10 => ?_)
      · skip
        refine X_iload (nx := 28) dX8_bound_26 rfl rfl ?_
        refine X_if_ne (tgt := 44) (nx := 31) dX8_bound_28 rfl rfl (fun h28 => ?_) (fun h28 => ?_)
        · skip
          refine X_iload (nx := 46) dX8_bound_44 rfl rfl ?_
          refine X_if_eq (tgt := 56) (nx := 49) dX8_bound_46 rfl rfl (fun h46 => ?_) (fun h46 => ?_)
          · exact absurd h46 (by decide)
          · skip
            refine X_aload_n (nx := 50) dX8_bound_49 rfl rfl rfl ?_
            refine X_iload (nx := 52) dX8_bound_50 rfl rfl ?_
            refine Y_Vi1 (nx := 55) dX8_bound_52 rfl ml_RX8_211 kj_X8_no kv_X8_no (by first | exact sp_X8_no (k := 1) rfl (by omega) (by omega) | exact sp_X8_no (k := 2) rfl (by omega) (by omega) | exact sp_X8_no (k := 3) rfl (by omega) (by omega)) (by first | assumption | rfl | decide | omega) (by first | assumption | rfl | decide | omega) (by decide) rfl (by first | decide | omega) (by exact Nat.le_of_ble_eq_true rfl) ?_
            exact Z_reti dX8_bound_55 (Or.inl rfl) (by
              unfold m_bound
              first
              | (rw [if_neg q1]; exact ck2_no (k := 1) h Fr.rf (by omega) (by omega))
              | (rw [if_pos c1, if_neg (fun q => n19 (decide_eq_true ⟨q.2.1, (le_ltI z (n := 5) (by decide)).mp q.2.2⟩))]; exact ck2_no (k := 2) h Fr.rf (by omega) (by omega))
              | (rw [if_pos c1, if_pos ⟨c2, (of_decide_eq_true c19).1, (le_ltI z (n := 5) (by decide)).mpr (of_decide_eq_true c19).2⟩, kp, kv, hno]; exact ck2_no (k := 3) hi1.1 hi1.2 (by omega) (by omega))
              | (rw [if_pos c1, if_neg (fun q => q2 q.1)]; exact ck2_no (k := 2) h Fr.rf (by omega) (by omega)))
        · exact absurd h28 (by decide)
      · exact absurd h10 (by decide)
    · rw [if_neg q2]
      have c2 := Decidable.not_not.mp q2
      obtain ⟨p, hp, rfl⟩ := ex_nI (N := 341) (n := 341) rfl (by decide) (of_decide_eq_true c1)
      have kp : (nI p).toNatClampNeg = p := nI_clamp (by omega)
      obtain ⟨v, hv, rfl⟩ := ex_nI (N := 4) (n := 4) rfl (by decide) (of_decide_eq_true c2)
      have kv : (nI v).toNatClampNeg = v := nI_clamp (by omega)
      refine X_istore (i := 4) (nx := 8) dX8_bound_6 rfl (by decide) rfl (st_s (st_s (st_s (st_s (st_0))))) ?_
      refine X_iload (nx := 10) dX8_bound_8 rfl rfl ?_
      refine X_if_ne (tgt := 26) (nx := 13) dX8_bound_10 rfl rfl (fun h10 => ?_) (fun h10 => ?_)
      · exact absurd h10 (by decide)
      · skip
        refine X_iload_n (nx := 14) dX8_bound_13 rfl rfl rfl ?_
        refine X_iconst (v := 0) (nx := 15) dX8_bound_14 rfl rfl ?_
        refine X_iconst (v := 5) (nx := 16) dX8_bound_15 rfl rfl ?_
        refine Y_Si3 (nx := 19) dX8_bound_16 rfl ml_RX8_115 kj_X8_isIn ks_X8_isIn (sp_X8_isIn) (by first | decide | omega) (by exact Nat.le_of_ble_eq_true rfl) ?_
        refine X_top (congrArg b2i (d_in (n := 5) (by decide))) ?_
        refine X_if_ne (tgt := 26) (nx := 22) dX8_bound_19 rfl rfl (fun h19 => ?_) (fun h19 => ?_)
        · skip
          have c19 := b2i_t.mp h19
          refine X_iload (nx := 28) dX8_bound_26 rfl rfl ?_
          refine X_if_ne (tgt := 44) (nx := 31) dX8_bound_28 rfl rfl (fun h28 => ?_) (fun h28 => ?_)
          · exact absurd h28 (by decide)
          · skip
            refine X_aload_n (nx := 32) dX8_bound_31 rfl rfl rfl ?_
            refine X_iload_n (nx := 33) dX8_bound_32 rfl rfl rfl ?_
            refine X_iload_n (nx := 34) dX8_bound_33 rfl rfl rfl ?_
            refine Z_Vi2 (nx := 37) dX8_bound_34 rfl ml_RX8_314 kj_X8_matchOf kv_X8_matchOf (sp_X8_matchOf h.1 hw.1 hw.1.1 tle rfl hp rfl hv) (by first | assumption | rfl | decide | omega) (by first | assumption | rfl | decide | omega) (by decide) rfl (by first | decide | omega) (by exact Nat.le_of_ble_eq_true rfl) (fun u34 D34 g34 => ?_)
            have hi1 := br_inv h hw g34
            refine X_if_ge (tgt := 44) (nx := 40) dX8_bound_37 rfl rfl (fun h37 => ?_) (fun h37 => ?_)
            · skip
              obtain ⟨e, ml, kk, hm, hue, hml, hg, hkl, t, ht1, ht2, ht3, ht4⟩ := mo_all g34 (Int32.not_lt.mpr h37)
              have hLL := g34.1.2.1.2.2.1
              obtain ⟨z', hz', rfl⟩ := ex_nI (x := z) (N := nI 6) (n := 6) rfl (by decide) (of_decide_eq_true c19)
              have kz : (nI z').toNatClampNeg = z' := nI_clamp (by omega)
              refine X_iload (nx := 46) dX8_bound_44 rfl rfl ?_
              refine X_if_eq (tgt := 56) (nx := 49) dX8_bound_46 rfl rfl (fun h46 => ?_) (fun h46 => ?_)
              · skip
                refine X_aload_n (nx := 57) dX8_bound_56 rfl rfl rfl ?_
                refine Z_Vv0 (nx := 60) dX8_bound_57 rfl ml_RX8_317 kj_X8_findBound kv_X8_findBound (sp_X8_findBound hw.1 hw.2.1 hi1.1.1 g34.1.2.1 ht1 ht2 hg ht3 hml (g34.2.2.2.2.1.trans hue) ht4 hkl) (by first | assumption | rfl | decide | omega) (by first | assumption | rfl | decide | omega) (by decide) rfl (by first | decide | omega) (by exact Nat.le_of_ble_eq_true rfl) (fun D57 g57 => ?_)
                refine X_aload_n (nx := 61) dX8_bound_60 rfl rfl rfl ?_
                refine M_getP (nx := 64) dX8_bound_61 rfl fl_RX8_67 rfl (by first | assumption | rfl | decide | omega) (by first | assumption | rfl | decide | omega) (by first | assumption | rfl | decide | omega) ?_
                refine X_iload_n (nx := 65) dX8_bound_64 rfl rfl rfl ?_
                refine M_ld (a := 124) (L := 6) (nx := 66) dX8_bound_65 rfl (by decide) (by decide) rfl (by decide) (by omega) (rfl) ?_
                exact Z_reti dX8_bound_66 (Or.inl rfl) (by
                  unfold m_bound
                  rw [if_pos c1, if_pos ⟨c2, (of_decide_eq_true c19).1, (le_ltI (nI z') (n := 5) (by decide)).mpr (of_decide_eq_true c19).2⟩, kp, kv, kz, hm]
                  have hi2 := scr_inv hi1.1 hw (g57.1.mono (fun b i q => by unfold FBQ at q; unfold SCR; omega))
                  refine ck2_s ?_ hi2.1 (hi1.2.tr hi2.2)
                  by_cases z5 : z' = 5
                  · subst z5; rw [if_pos (show nI 5 = 5 from rfl)]; exact g57.2.2.1
                  · have n5 : ¬ nI z' = 5 := fun q => z5 ((nI_eq (b := 5) (by omega) (by omega)).mp q)
                    by_cases z4 : z' = 4
                    · subst z4; rw [if_neg (show ¬ nI 4 = 5 by decide), if_pos (show nI 4 = 4 from rfl)]; exact g57.2.2.2
                    · rw [if_neg n5, if_neg (show ¬ nI z' = 4 from fun q => z4 ((nI_eq (b := 4) (by omega) (by omega)).mp q))]
                      exact g57.2.1 z' (by omega))
              · exact absurd h46 (by decide)
            · skip
              have hno := brg2_none g34 (Int32.not_le.mp h37)
              refine X_bipush (v := -3) (nx := 42) dX8_bound_40 rfl rfl ?_
              refine X_istore (i := 4) (nx := 44) dX8_bound_42 rfl (by decide) rfl (st_s (st_s (st_s (st_s (st_0))))) ?_
              refine X_iload (nx := 46) dX8_bound_44 rfl rfl ?_
              refine X_if_eq (tgt := 56) (nx := 49) dX8_bound_46 rfl rfl (fun h46 => ?_) (fun h46 => ?_)
              · exact absurd h46 (by decide)
              · skip
                refine X_aload_n (nx := 50) dX8_bound_49 rfl rfl rfl ?_
                refine X_iload (nx := 52) dX8_bound_50 rfl rfl ?_
                refine Y_Vi1 (nx := 55) dX8_bound_52 rfl ml_RX8_211 kj_X8_no kv_X8_no (by first | exact sp_X8_no (k := 1) rfl (by omega) (by omega) | exact sp_X8_no (k := 2) rfl (by omega) (by omega) | exact sp_X8_no (k := 3) rfl (by omega) (by omega)) (by first | assumption | rfl | decide | omega) (by first | assumption | rfl | decide | omega) (by decide) rfl (by first | decide | omega) (by exact Nat.le_of_ble_eq_true rfl) ?_
                exact Z_reti dX8_bound_55 (Or.inl rfl) (by
                  unfold m_bound
                  first
                  | (rw [if_neg q1]; exact ck2_no (k := 1) h Fr.rf (by omega) (by omega))
                  | (rw [if_pos c1, if_neg (fun q => n19 (decide_eq_true ⟨q.2.1, (le_ltI z (n := 5) (by decide)).mp q.2.2⟩))]; exact ck2_no (k := 2) h Fr.rf (by omega) (by omega))
                  | (rw [if_pos c1, if_pos ⟨c2, (of_decide_eq_true c19).1, (le_ltI z (n := 5) (by decide)).mpr (of_decide_eq_true c19).2⟩, kp, kv, hno]; exact ck2_no (k := 3) hi1.1 hi1.2 (by omega) (by omega))
                  | (rw [if_pos c1, if_neg (fun q => q2 q.1)]; exact ck2_no (k := 2) h Fr.rf (by omega) (by omega)))
        · skip
          have n19 := nb h19
          refine X_bipush (v := -2) (nx := 24) dX8_bound_22 rfl rfl ?_
          refine X_istore (i := 4) (nx := 26) dX8_bound_24 rfl (by decide) rfl (st_s (st_s (st_s (st_s (st_0))))) ?_
          refine X_iload (nx := 28) dX8_bound_26 rfl rfl ?_
          refine X_if_ne (tgt := 44) (nx := 31) dX8_bound_28 rfl rfl (fun h28 => ?_) (fun h28 => ?_)
          · skip
            refine X_iload (nx := 46) dX8_bound_44 rfl rfl ?_
            refine X_if_eq (tgt := 56) (nx := 49) dX8_bound_46 rfl rfl (fun h46 => ?_) (fun h46 => ?_)
            · exact absurd h46 (by decide)
            · skip
              refine X_aload_n (nx := 50) dX8_bound_49 rfl rfl rfl ?_
              refine X_iload (nx := 52) dX8_bound_50 rfl rfl ?_
              refine Y_Vi1 (nx := 55) dX8_bound_52 rfl ml_RX8_211 kj_X8_no kv_X8_no (by first | exact sp_X8_no (k := 1) rfl (by omega) (by omega) | exact sp_X8_no (k := 2) rfl (by omega) (by omega) | exact sp_X8_no (k := 3) rfl (by omega) (by omega)) (by first | assumption | rfl | decide | omega) (by first | assumption | rfl | decide | omega) (by decide) rfl (by first | decide | omega) (by exact Nat.le_of_ble_eq_true rfl) ?_
              exact Z_reti dX8_bound_55 (Or.inl rfl) (by
                unfold m_bound
                first
                | (rw [if_neg q1]; exact ck2_no (k := 1) h Fr.rf (by omega) (by omega))
                | (rw [if_pos c1, if_neg (fun q => n19 (decide_eq_true ⟨q.2.1, (le_ltI z (n := 5) (by decide)).mp q.2.2⟩))]; exact ck2_no (k := 2) h Fr.rf (by omega) (by omega))
                | (rw [if_pos c1, if_pos ⟨c2, (of_decide_eq_true c19).1, (le_ltI z (n := 5) (by decide)).mpr (of_decide_eq_true c19).2⟩, kp, kv, hno]; exact ck2_no (k := 3) hi1.1 hi1.2 (by omega) (by omega))
                | (rw [if_pos c1, if_neg (fun q => q2 q.1)]; exact ck2_no (k := 2) h Fr.rf (by omega) (by omega)))
          · exact absurd h28 (by decide)
