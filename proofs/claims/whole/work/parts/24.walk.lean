/-! THE WALK: the orders' steps, the next node, the end -/
/-- the steps of an order, told in letters -/
def ordS (i : Nat) : List Nat := [[69, 76, 65, 67, 82, 77], [77, 69, 76, 67, 65, 82, 77], [82, 69, 76, 65, 67, 82, 77], [69, 76, 67, 65, 82, 77]].getD i []
def oi (k : Nat) : Nat := if k = 1 then 0 else if k = 2 then 1 else if k = 3 then 2 else 3
theorem oi_lt (k : Nat) : oi k < 4 := by unfold oi; split <;> (try split) <;> (try split) <;> omega
/-- the seven steps of a kind as the class has them: 32 does nothing -/
def ord7 (k : Nat) : List Nat := [[69, 76, 67, 65, 82, 77, 32], [69, 76, 65, 67, 82, 77, 32], [77, 69, 76, 67, 65, 82, 77], [82, 69, 76, 65, 67, 82, 77], [69, 76, 67, 65, 82, 77, 32], [69, 76, 67, 65, 82, 77, 32]].getD k []
theorem ord7_o : ∀ k, k < 6 → (ord7 k = ordS (oi k) ∨ ord7 k = ordS (oi k) ++ [32]) ∧ (ord7 k).length = 7 := by decide
theorem ordC_7 : ∀ k, k < 6 → ∀ p, p < 7 → ordC (k * 7 + p) = nI ((ord7 k).getD p 0) := by decide
theorem ord7_s : ∀ k, k < 6 → ∀ p, p < 7 → ((ord7 k).getD p 0 = 69 ∨ (ord7 k).getD p 0 = 76 ∨ (ord7 k).getD p 0 = 65 ∨ (ord7 k).getD p 0 = 67 ∨ (ord7 k).getD p 0 = 82 ∨ (ord7 k).getD p 0 = 77 ∨ (ord7 k).getD p 0 = 32) ∧ (ord7 k).drop p = (ord7 k).getD p 0 :: (ord7 k).drop (p + 1) := by decide
theorem dX6_stepOf_0 : decode cX6_stepOf 0 = .ok (.iload_n 0, 1) := by decide +kernel
theorem dX6_stepOf_1 : decode cX6_stepOf 1 = .ok (.bipush 7, 2) := by decide +kernel
theorem dX6_stepOf_3 : decode cX6_stepOf 3 = .ok (.imul, 1) := by decide +kernel
theorem dX6_stepOf_4 : decode cX6_stepOf 4 = .ok (.iload_n 1, 1) := by decide +kernel
theorem dX6_stepOf_5 : decode cX6_stepOf 5 = .ok (.iadd, 1) := by decide +kernel
theorem dX6_stepOf_6 : decode cX6_stepOf 6 = .ok (.istore_n 2, 1) := by decide +kernel
theorem dX6_stepOf_7 : decode cX6_stepOf 7 = .ok (.iload_n 2, 1) := by decide +kernel
theorem dX6_stepOf_8 : decode cX6_stepOf 8 = .ok (.ifCond .lt 19, 3) := by decide +kernel
theorem dX6_stepOf_11 : decode cX6_stepOf 11 = .ok (.iload_n 2, 1) := by decide +kernel
theorem dX6_stepOf_12 : decode cX6_stepOf 12 = .ok (.getstatic 93, 3) := by decide +kernel
theorem dX6_stepOf_15 : decode cX6_stepOf 15 = .ok (.arraylength, 1) := by decide +kernel
theorem dX6_stepOf_16 : decode cX6_stepOf 16 = .ok (.if_icmp .ge 11, 3) := by decide +kernel
theorem dX6_stepOf_19 : decode cX6_stepOf 19 = .ok (.getstatic 93, 3) := by decide +kernel
theorem dX6_stepOf_22 : decode cX6_stepOf 22 = .ok (.iload_n 2, 1) := by decide +kernel
theorem dX6_stepOf_23 : decode cX6_stepOf 23 = .ok (.caload, 1) := by decide +kernel
theorem dX6_stepOf_24 : decode cX6_stepOf 24 = .ok (.goto 5, 3) := by decide +kernel
theorem dX6_stepOf_27 : decode cX6_stepOf 27 = .ok (.bipush 32, 2) := by decide +kernel
theorem dX6_stepOf_29 : decode cX6_stepOf 29 = .ok (.ireturn, 1) := by decide +kernel
theorem sp_X6_stepOf {k p : Nat} {x y : Int32} {D : Mem} (hx : x = nI k) (hk : k < 6) (hy : y = nI p) (hp : p < 7) : Ei 1 j_X6_stepOf [.int x, .int y] D (nI ((ord7 k).getD p 0)) (D) := by
  refine E.start 1 (ls := [some (.int x), some (.int y), none]) (by decide +kernel) (Nat.le_of_ble_eq_true rfl) rfl (Nat.le_refl _) (Nat.le_refl _) ?_
  subst hx; subst hy
  refine X_iload_n (nx := 1) dX6_stepOf_0 rfl rfl rfl ?_
  refine X_bipush (v := nI 7) (nx := 3) dX6_stepOf_1 rfl rfl ?_
  refine X_imul (nx := 4) dX6_stepOf_3 rfl ?_
  refine X_top (pk_mul k 7) ?_
  refine X_iload_n (nx := 5) dX6_stepOf_4 rfl rfl rfl ?_
  refine X_iadd (nx := 6) dX6_stepOf_5 rfl ?_
  refine X_top (nI_add _ _) ?_
  refine X_istore_n (i := 2) (nx := 7) dX6_stepOf_6 rfl rfl (by decide) rfl (st_s (st_s (st_0))) ?_
  refine X_iload_n (nx := 8) dX6_stepOf_7 rfl rfl rfl ?_
  refine X_if_lt (tgt := 27) (nx := 11) dX6_stepOf_8 rfl rfl (fun h8 => ?_) (fun h8 => ?_)
  · exact absurd h8 (nI_neg (by omega))
  · skip
    refine X_iload_n (nx := 12) dX6_stepOf_11 rfl rfl rfl ?_
    refine X_gs_orc (nx := 15) dX6_stepOf_12 rfl gs_RX6_93 ?_
    refine X_clen (nx := 16) dX6_stepOf_15 rfl ?_
    refine X_icmp_ge (tgt := 27) (nx := 19) dX6_stepOf_16 rfl rfl (fun h16 => ?_) (fun h16 => ?_)
    · exact absurd h16 (nI_ge (by omega) (by omega))
    · skip
      refine X_gs_orc (nx := 22) dX6_stepOf_19 rfl gs_RX6_93 ?_
      refine X_iload_n (nx := 23) dX6_stepOf_22 rfl rfl rfl ?_
      refine X_cald (nx := 24) dX6_stepOf_23 rfl (vp_in_nI (by omega) (by omega)) ?_
      refine X_goto (tgt := 29) dX6_stepOf_24 rfl ?_
      exact Y_reti dX6_stepOf_29 (Or.inl rfl) ((congrArg ordC (nI_clamp (by omega))).trans (ordC_7 k hk p hp)) rfl
/-- which edge a step takes at a letter -/
def edg (s l : Nat) : Option Nat := if s = 76 then some l else if s = 67 then some (if l < 2 then 4 else 5) else if s = 65 then some 6 else none
def nxI (nl : List Nd) (PS : Nd → Nat → Bool) (q : Nd) (w : Nat) (L : List Nat) (s a : Nat) : Option Nat := if L.length ≤ a then none else match edg s (L.getD a 0) with
  | none => none
  | some e => nbh nl PS q e w
theorem edg_C1 {l : Nat} (h : l < 2) : edg 67 l = some 4 := by unfold edg; rw [if_neg (by decide), if_pos rfl, if_pos h]
theorem edg_C2 {l : Nat} (h : ¬ l < 2) : edg 67 l = some 5 := by unfold edg; rw [if_neg (by decide), if_pos rfl, if_neg h]
theorem nxI_e {nl : List Nd} {PS : Nd → Nat → Bool} {q : Nd} {w s a e : Nat} {L : List Nat} (h : a < L.length) (he : edg s (L.getD a 0) = some e) : nxI nl PS q w L s a = nbh nl PS q e w := by
  unfold nxI; rw [if_neg (by omega), he]
theorem nxI_n {nl : List Nd} {PS : Nd → Nat → Bool} {q : Nd} {w s a : Nat} {L : List Nat} (he : edg s (L.getD a 0) = none) : nxI nl PS q w L s a = none := by
  unfold nxI; split <;> (try rw [he]) <;> rfl
theorem nxI_o {nl : List Nd} {PS : Nd → Nat → Bool} {q : Nd} {w s a : Nat} {L : List Nat} (h : ¬ a < L.length) : nxI nl PS q w L s a = none := by
  unfold nxI; rw [if_pos (by omega)]
/-- the end by a step -/
def ebF (RS EN : Nd → Nat → Bool) (SV : Nat → Nat → Bool) (q : Nd) (w v : Nat) (L : List Nat) (s a : Nat) : Option Nat := fst_ (fun r => (if s = 82 then RS q r else if s = 69 ∧ a = L.length then EN q r else false) && (w.testBit r && SV v r)) 0 10
def ebD (D : Mem) (r : Option Nat) (ms t : Nat) : Mem := match r with
  | none => D
  | some _ => up2 (up2 D 79 7 (nI ms)) 79 8 (nI t)
theorem bits_0 : mkn (fun _ => false) 10 = 0 := by decide
theorem and3m {p g : Nat → Bool} {w : Nat} (r : Nat) (hr : r < 10) : (mkn p 10 &&& w &&& mkn g 10).testBit r = (p r && (w.testBit r && g r)) := by
  rw [Nat.testBit_and, Nat.testBit_and, mkn_tb, mkn_tb, decide_eq_true hr, Bool.true_and, Bool.true_and, Bool.and_assoc]
theorem dX6_nextBy_0 : decode cX6_nextBy 0 = .ok (.iload_n 3, 1) := by decide +kernel
theorem dX6_nextBy_1 : decode cX6_nextBy 1 = .ok (.aload_n 0, 1) := by decide +kernel
theorem dX6_nextBy_2 : decode cX6_nextBy 2 = .ok (.getfield 23, 3) := by decide +kernel
theorem dX6_nextBy_5 : decode cX6_nextBy 5 = .ok (.getfield 74, 3) := by decide +kernel
theorem dX6_nextBy_8 : decode cX6_nextBy 8 = .ok (.if_icmp .lt 6, 3) := by decide +kernel
theorem dX6_nextBy_11 : decode cX6_nextBy 11 = .ok (.bipush (-9), 2) := by decide +kernel
theorem dX6_nextBy_13 : decode cX6_nextBy 13 = .ok (.ireturn, 1) := by decide +kernel
theorem dX6_nextBy_14 : decode cX6_nextBy 14 = .ok (.aload_n 0, 1) := by decide +kernel
theorem dX6_nextBy_15 : decode cX6_nextBy 15 = .ok (.getfield 23, 3) := by decide +kernel
theorem dX6_nextBy_18 : decode cX6_nextBy 18 = .ok (.iload_n 3, 1) := by decide +kernel
theorem dX6_nextBy_19 : decode cX6_nextBy 19 = .ok (.invokevirtual 97, 3) := by decide +kernel
theorem dX6_nextBy_22 : decode cX6_nextBy 22 = .ok (.istore 4, 2) := by decide +kernel
theorem dX6_nextBy_24 : decode cX6_nextBy 24 = .ok (.iload_n 1, 1) := by decide +kernel
theorem dX6_nextBy_25 : decode cX6_nextBy 25 = .ok (.lookupswitch 97 #[(65, 82), (67, 50), (76, 35)], 35) := by decide +kernel
theorem dX6_nextBy_60 : decode cX6_nextBy 60 = .ok (.aload_n 0, 1) := by decide +kernel
theorem dX6_nextBy_61 : decode cX6_nextBy 61 = .ok (.getfield 12, 3) := by decide +kernel
theorem dX6_nextBy_64 : decode cX6_nextBy 64 = .ok (.iload_n 2, 1) := by decide +kernel
theorem dX6_nextBy_65 : decode cX6_nextBy 65 = .ok (.iload 4, 2) := by decide +kernel
theorem dX6_nextBy_67 : decode cX6_nextBy 67 = .ok (.aload_n 0, 1) := by decide +kernel
theorem dX6_nextBy_68 : decode cX6_nextBy 68 = .ok (.getfield 44, 3) := by decide +kernel
theorem dX6_nextBy_71 : decode cX6_nextBy 71 = .ok (.invokevirtual 101, 3) := by decide +kernel
theorem dX6_nextBy_74 : decode cX6_nextBy 74 = .ok (.ireturn, 1) := by decide +kernel
theorem dX6_nextBy_75 : decode cX6_nextBy 75 = .ok (.bipush 10, 2) := by decide +kernel
theorem dX6_nextBy_77 : decode cX6_nextBy 77 = .ok (.iload 4, 2) := by decide +kernel
theorem dX6_nextBy_79 : decode cX6_nextBy 79 = .ok (.invokestatic 104, 3) := by decide +kernel
theorem dX6_nextBy_82 : decode cX6_nextBy 82 = .ok (.ifCond .eq 7, 3) := by decide +kernel
theorem dX6_nextBy_85 : decode cX6_nextBy 85 = .ok (.iconst 4, 1) := by decide +kernel
theorem dX6_nextBy_86 : decode cX6_nextBy 86 = .ok (.goto 4, 3) := by decide +kernel
theorem dX6_nextBy_89 : decode cX6_nextBy 89 = .ok (.iconst 5, 1) := by decide +kernel
theorem dX6_nextBy_90 : decode cX6_nextBy 90 = .ok (.istore 5, 2) := by decide +kernel
theorem dX6_nextBy_92 : decode cX6_nextBy 92 = .ok (.aload_n 0, 1) := by decide +kernel
theorem dX6_nextBy_93 : decode cX6_nextBy 93 = .ok (.getfield 12, 3) := by decide +kernel
theorem dX6_nextBy_96 : decode cX6_nextBy 96 = .ok (.iload_n 2, 1) := by decide +kernel
theorem dX6_nextBy_97 : decode cX6_nextBy 97 = .ok (.iload 5, 2) := by decide +kernel
theorem dX6_nextBy_99 : decode cX6_nextBy 99 = .ok (.aload_n 0, 1) := by decide +kernel
theorem dX6_nextBy_100 : decode cX6_nextBy 100 = .ok (.getfield 44, 3) := by decide +kernel
theorem dX6_nextBy_103 : decode cX6_nextBy 103 = .ok (.invokevirtual 101, 3) := by decide +kernel
theorem dX6_nextBy_106 : decode cX6_nextBy 106 = .ok (.ireturn, 1) := by decide +kernel
theorem dX6_nextBy_107 : decode cX6_nextBy 107 = .ok (.aload_n 0, 1) := by decide +kernel
theorem dX6_nextBy_108 : decode cX6_nextBy 108 = .ok (.getfield 12, 3) := by decide +kernel
theorem dX6_nextBy_111 : decode cX6_nextBy 111 = .ok (.iload_n 2, 1) := by decide +kernel
theorem dX6_nextBy_112 : decode cX6_nextBy 112 = .ok (.bipush 6, 2) := by decide +kernel
theorem dX6_nextBy_114 : decode cX6_nextBy 114 = .ok (.aload_n 0, 1) := by decide +kernel
theorem dX6_nextBy_115 : decode cX6_nextBy 115 = .ok (.getfield 44, 3) := by decide +kernel
theorem dX6_nextBy_118 : decode cX6_nextBy 118 = .ok (.invokevirtual 101, 3) := by decide +kernel
theorem dX6_nextBy_121 : decode cX6_nextBy 121 = .ok (.ireturn, 1) := by decide +kernel
theorem dX6_nextBy_122 : decode cX6_nextBy 122 = .ok (.bipush (-9), 2) := by decide +kernel
theorem dX6_nextBy_124 : decode cX6_nextBy 124 = .ok (.ireturn, 1) := by decide +kernel
theorem sp_X6_nextBy {B : Bk} {nl : List Nd} {PS EN RS MN : Nd → Nat → Bool} {SV : Nat → Nat → Bool} {MO : Nat → Bool} {L : List Nat} {w j s a : Nat} {x y z : Int32} {D : Mem} (h : TE D B nl PS EN RS MN SV MO) (hL : LET D 92 L) (hw : D 79 5 = nI w) (hw2 : w < 1024) (hj : j < nl.length) (hx : x = nI s) (hs : s = 69 ∨ s = 76 ∨ s = 65 ∨ s = 67 ∨ s = 82 ∨ s = 77 ∨ s = 32) (hy : y = nI j) (hz : z = nI a) (ha : a ≤ L.length) : Ei 3 j_X6_nextBy [.ref 79, .int x, .int y, .int z] D (opI (nxI nl PS (ng nl j) w L s a)) (D) := by
  refine E.start 2 (ls := [some (.ref 79), some (.int x), some (.int y), some (.int z), none, none]) (by decide +kernel) (Nat.le_of_ble_eq_true rfl) rfl (Nat.le_refl _) (Nat.le_refl _) ?_
  subst hx; subst hy; subst hz
  have hp : isPa 92 := Or.inl rfl
  have hb := hL.1
  refine X_iload_n (nx := 1) dX6_nextBy_0 rfl rfl rfl ?_
  refine X_aload_n (nx := 2) dX6_nextBy_1 rfl rfl rfl ?_
  refine M_getP (nx := 5) dX6_nextBy_2 rfl fl_RX6_23 rfl (by first | assumption | rfl | decide | omega) (by first | assumption | rfl | decide | omega) (by first | assumption | rfl | decide | omega) ?_
  refine M_getI (nx := 8) dX6_nextBy_5 rfl fl_RX6_74 rfl (by first | assumption | rfl | decide | omega) (by first | assumption | rfl | decide | omega) ?_
  refine X_top (hL.2.1) ?_
  refine X_icmp_lt (tgt := 14) (nx := 11) dX6_nextBy_8 rfl rfl (fun h8 => ?_) (fun h8 => ?_)
  · skip
    rw [nI_ltI (by omega) (by omega)] at h8
    have hl4 := hL.2.2.2 _ (getD_in h8)
    refine X_aload_n (nx := 15) dX6_nextBy_14 rfl rfl rfl ?_
    refine M_getP (nx := 18) dX6_nextBy_15 rfl fl_RX6_23 rfl (by first | assumption | rfl | decide | omega) (by first | assumption | rfl | decide | omega) (by first | assumption | rfl | decide | omega) ?_
    refine X_iload_n (nx := 19) dX6_nextBy_18 rfl rfl rfl ?_
    refine Y_Vi1 (nx := 22) dX6_nextBy_19 rfl ml_RX6_97 kj_X2_at kv_X2_at (sp_X2_at hp.pl (hL.pil hp) rfl h8) (by first | assumption | rfl | decide | omega) (by first | assumption | rfl | decide | omega) (by decide) rfl (by first | decide | omega) (by exact Nat.le_of_ble_eq_true rfl) ?_
    refine X_istore (i := 4) (nx := 24) dX6_nextBy_22 rfl (by decide) rfl (st_s (st_s (st_s (st_s (st_0))))) ?_
    refine X_iload_n (nx := 25) dX6_nextBy_24 rfl rfl rfl ?_
    rcases hs with rfl | rfl | rfl | rfl | rfl | rfl | rfl
    · skip
      refine X_top (y := 69) (rfl) ?_
      refine X_lookup (tgt := 122) (off := 97) dX6_nextBy_25 (by decide) (by decide) rfl ?_
      refine X_bipush (v := -9) (nx := 124) dX6_nextBy_122 rfl rfl ?_
      exact Y_reti dX6_nextBy_124 (Or.inl rfl) (by first | (rw [nxI_o h8]; rfl) | (rw [nxI_e h8 (edg_C1 h82)]; done) | (rw [nxI_e h8 (edg_C2 h82)]; done) | (rw [nxI_e h8 (show edg 76 _ = some _ from rfl)]; done) | (rw [nxI_e h8 (show edg 65 _ = some _ from rfl)]; done) | (rw [nxI_n rfl]; rfl)) rfl
    · skip
      refine X_top (y := 76) (rfl) ?_
      refine X_lookup (tgt := 60) (off := 35) dX6_nextBy_25 (by decide) (by decide) rfl ?_
      refine X_aload_n (nx := 61) dX6_nextBy_60 rfl rfl rfl ?_
      refine M_getP (nx := 64) dX6_nextBy_61 rfl fl_RX6_12 rfl (by first | assumption | rfl | decide | omega) (by first | assumption | rfl | decide | omega) (by first | assumption | rfl | decide | omega) ?_
      refine X_iload_n (nx := 65) dX6_nextBy_64 rfl rfl rfl ?_
      refine X_iload (nx := 67) dX6_nextBy_65 rfl rfl ?_
      refine X_aload_n (nx := 68) dX6_nextBy_67 rfl rfl rfl ?_
      refine M_getI (nx := 71) dX6_nextBy_68 rfl fl_RX6_44 rfl (by first | assumption | rfl | decide | omega) (by first | assumption | rfl | decide | omega) ?_
      refine X_top (hw) ?_
      refine Y_Vi3 (nx := 74) dX6_nextBy_71 rfl ml_RX6_101 kj_X5_nodeBehind kv_X5_nodeBehind (sp_X5_nodeBehind h rfl hj rfl (by omega) rfl hw2) (by first | assumption | rfl | decide | omega) (by first | assumption | rfl | decide | omega) (by decide) rfl (by first | decide | omega) (by exact Nat.le_of_ble_eq_true rfl) ?_
      exact Y_reti dX6_nextBy_74 (Or.inl rfl) (by first | (rw [nxI_o h8]; rfl) | (rw [nxI_e h8 (edg_C1 h82)]; done) | (rw [nxI_e h8 (edg_C2 h82)]; done) | (rw [nxI_e h8 (show edg 76 _ = some _ from rfl)]; done) | (rw [nxI_e h8 (show edg 65 _ = some _ from rfl)]; done) | (rw [nxI_n rfl]; rfl)) rfl
    · skip
      refine X_top (y := 65) (rfl) ?_
      refine X_lookup (tgt := 107) (off := 82) dX6_nextBy_25 (by decide) (by decide) rfl ?_
      refine X_aload_n (nx := 108) dX6_nextBy_107 rfl rfl rfl ?_
      refine M_getP (nx := 111) dX6_nextBy_108 rfl fl_RX6_12 rfl (by first | assumption | rfl | decide | omega) (by first | assumption | rfl | decide | omega) (by first | assumption | rfl | decide | omega) ?_
      refine X_iload_n (nx := 112) dX6_nextBy_111 rfl rfl rfl ?_
      refine X_bipush (v := nI 6) (nx := 114) dX6_nextBy_112 rfl rfl ?_
      refine X_aload_n (nx := 115) dX6_nextBy_114 rfl rfl rfl ?_
      refine M_getI (nx := 118) dX6_nextBy_115 rfl fl_RX6_44 rfl (by first | assumption | rfl | decide | omega) (by first | assumption | rfl | decide | omega) ?_
      refine X_top (hw) ?_
      refine Y_Vi3 (nx := 121) dX6_nextBy_118 rfl ml_RX6_101 kj_X5_nodeBehind kv_X5_nodeBehind (sp_X5_nodeBehind h rfl hj rfl (by omega) rfl hw2) (by first | assumption | rfl | decide | omega) (by first | assumption | rfl | decide | omega) (by decide) rfl (by first | decide | omega) (by exact Nat.le_of_ble_eq_true rfl) ?_
      exact Y_reti dX6_nextBy_121 (Or.inl rfl) (by first | (rw [nxI_o h8]; rfl) | (rw [nxI_e h8 (edg_C1 h82)]; done) | (rw [nxI_e h8 (edg_C2 h82)]; done) | (rw [nxI_e h8 (show edg 76 _ = some _ from rfl)]; done) | (rw [nxI_e h8 (show edg 65 _ = some _ from rfl)]; done) | (rw [nxI_n rfl]; rfl)) rfl
    · skip
      refine X_top (y := 67) (rfl) ?_
      refine X_lookup (tgt := 75) (off := 50) dX6_nextBy_25 (by decide) (by decide) rfl ?_
      refine X_bipush (v := nI 10) (nx := 77) dX6_nextBy_75 rfl rfl ?_
      refine X_iload (nx := 79) dX6_nextBy_77 rfl rfl ?_
      refine Y_Si2 (nx := 82) dX6_nextBy_79 rfl ml_RX6_104 kj_X7_fits ks_X7_fits (sp_X7_fits (s := 10) rfl (Or.inr (Or.inl (by omega))) rfl hl4) (by first | decide | omega) (by exact Nat.le_of_ble_eq_true rfl) ?_
      refine X_if_eq (tgt := 89) (nx := 85) dX6_nextBy_82 rfl rfl (fun h82 => ?_) (fun h82 => ?_)
      · skip
        rw [fitT_2 (by omega), b2i_f] at h82
        have h82 := of_decide_eq_false h82
        refine X_iconst (v := nI 5) (nx := 90) dX6_nextBy_89 rfl rfl ?_
        refine X_istore (i := 5) (nx := 92) dX6_nextBy_90 rfl (by decide) rfl (st_s (st_s (st_s (st_s (st_s (st_0)))))) ?_
        refine X_aload_n (nx := 93) dX6_nextBy_92 rfl rfl rfl ?_
        refine M_getP (nx := 96) dX6_nextBy_93 rfl fl_RX6_12 rfl (by first | assumption | rfl | decide | omega) (by first | assumption | rfl | decide | omega) (by first | assumption | rfl | decide | omega) ?_
        refine X_iload_n (nx := 97) dX6_nextBy_96 rfl rfl rfl ?_
        refine X_iload (nx := 99) dX6_nextBy_97 rfl rfl ?_
        refine X_aload_n (nx := 100) dX6_nextBy_99 rfl rfl rfl ?_
        refine M_getI (nx := 103) dX6_nextBy_100 rfl fl_RX6_44 rfl (by first | assumption | rfl | decide | omega) (by first | assumption | rfl | decide | omega) ?_
        refine X_top (hw) ?_
        refine Y_Vi3 (nx := 106) dX6_nextBy_103 rfl ml_RX6_101 kj_X5_nodeBehind kv_X5_nodeBehind (sp_X5_nodeBehind h rfl hj rfl (by omega) rfl hw2) (by first | assumption | rfl | decide | omega) (by first | assumption | rfl | decide | omega) (by decide) rfl (by first | decide | omega) (by exact Nat.le_of_ble_eq_true rfl) ?_
        exact Y_reti dX6_nextBy_106 (Or.inl rfl) (by first | (rw [nxI_o h8]; rfl) | (rw [nxI_e h8 (edg_C1 h82)]; done) | (rw [nxI_e h8 (edg_C2 h82)]; done) | (rw [nxI_e h8 (show edg 76 _ = some _ from rfl)]; done) | (rw [nxI_e h8 (show edg 65 _ = some _ from rfl)]; done) | (rw [nxI_n rfl]; rfl)) rfl
      · skip
        rw [fitT_2 (by omega), b2i_t] at h82
        have h82 := of_decide_eq_true h82
        refine X_iconst (v := nI 4) (nx := 86) dX6_nextBy_85 rfl rfl ?_
        refine X_goto (tgt := 90) dX6_nextBy_86 rfl ?_
        refine X_istore (i := 5) (nx := 92) dX6_nextBy_90 rfl (by decide) rfl (st_s (st_s (st_s (st_s (st_s (st_0)))))) ?_
        refine X_aload_n (nx := 93) dX6_nextBy_92 rfl rfl rfl ?_
        refine M_getP (nx := 96) dX6_nextBy_93 rfl fl_RX6_12 rfl (by first | assumption | rfl | decide | omega) (by first | assumption | rfl | decide | omega) (by first | assumption | rfl | decide | omega) ?_
        refine X_iload_n (nx := 97) dX6_nextBy_96 rfl rfl rfl ?_
        refine X_iload (nx := 99) dX6_nextBy_97 rfl rfl ?_
        refine X_aload_n (nx := 100) dX6_nextBy_99 rfl rfl rfl ?_
        refine M_getI (nx := 103) dX6_nextBy_100 rfl fl_RX6_44 rfl (by first | assumption | rfl | decide | omega) (by first | assumption | rfl | decide | omega) ?_
        refine X_top (hw) ?_
        refine Y_Vi3 (nx := 106) dX6_nextBy_103 rfl ml_RX6_101 kj_X5_nodeBehind kv_X5_nodeBehind (sp_X5_nodeBehind h rfl hj rfl (by omega) rfl hw2) (by first | assumption | rfl | decide | omega) (by first | assumption | rfl | decide | omega) (by decide) rfl (by first | decide | omega) (by exact Nat.le_of_ble_eq_true rfl) ?_
        exact Y_reti dX6_nextBy_106 (Or.inl rfl) (by first | (rw [nxI_o h8]; rfl) | (rw [nxI_e h8 (edg_C1 h82)]; done) | (rw [nxI_e h8 (edg_C2 h82)]; done) | (rw [nxI_e h8 (show edg 76 _ = some _ from rfl)]; done) | (rw [nxI_e h8 (show edg 65 _ = some _ from rfl)]; done) | (rw [nxI_n rfl]; rfl)) rfl
    · skip
      refine X_top (y := 82) (rfl) ?_
      refine X_lookup (tgt := 122) (off := 97) dX6_nextBy_25 (by decide) (by decide) rfl ?_
      refine X_bipush (v := -9) (nx := 124) dX6_nextBy_122 rfl rfl ?_
      exact Y_reti dX6_nextBy_124 (Or.inl rfl) (by first | (rw [nxI_o h8]; rfl) | (rw [nxI_e h8 (edg_C1 h82)]; done) | (rw [nxI_e h8 (edg_C2 h82)]; done) | (rw [nxI_e h8 (show edg 76 _ = some _ from rfl)]; done) | (rw [nxI_e h8 (show edg 65 _ = some _ from rfl)]; done) | (rw [nxI_n rfl]; rfl)) rfl
    · skip
      refine X_top (y := 77) (rfl) ?_
      refine X_lookup (tgt := 122) (off := 97) dX6_nextBy_25 (by decide) (by decide) rfl ?_
      refine X_bipush (v := -9) (nx := 124) dX6_nextBy_122 rfl rfl ?_
      exact Y_reti dX6_nextBy_124 (Or.inl rfl) (by first | (rw [nxI_o h8]; rfl) | (rw [nxI_e h8 (edg_C1 h82)]; done) | (rw [nxI_e h8 (edg_C2 h82)]; done) | (rw [nxI_e h8 (show edg 76 _ = some _ from rfl)]; done) | (rw [nxI_e h8 (show edg 65 _ = some _ from rfl)]; done) | (rw [nxI_n rfl]; rfl)) rfl
    · skip
      refine X_top (y := 32) (rfl) ?_
      refine X_lookup (tgt := 122) (off := 97) dX6_nextBy_25 (by decide) (by decide) rfl ?_
      refine X_bipush (v := -9) (nx := 124) dX6_nextBy_122 rfl rfl ?_
      exact Y_reti dX6_nextBy_124 (Or.inl rfl) (by first | (rw [nxI_o h8]; rfl) | (rw [nxI_e h8 (edg_C1 h82)]; done) | (rw [nxI_e h8 (edg_C2 h82)]; done) | (rw [nxI_e h8 (show edg 76 _ = some _ from rfl)]; done) | (rw [nxI_e h8 (show edg 65 _ = some _ from rfl)]; done) | (rw [nxI_n rfl]; rfl)) rfl
  · skip
    rw [nI_ltI (by omega) (by omega)] at h8
    refine X_bipush (v := -9) (nx := 13) dX6_nextBy_11 rfl rfl ?_
    exact Y_reti dX6_nextBy_13 (Or.inl rfl) (by first | (rw [nxI_o h8]; rfl) | (rw [nxI_e h8 (edg_C1 h82)]; done) | (rw [nxI_e h8 (edg_C2 h82)]; done) | (rw [nxI_e h8 (show edg 76 _ = some _ from rfl)]; done) | (rw [nxI_e h8 (show edg 65 _ = some _ from rfl)]; done) | (rw [nxI_n rfl]; rfl)) rfl
