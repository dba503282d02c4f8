/-! THE TRIE -/
abbrev Nd := Nat × List Nat
def ng (nl : List Nd) (j : Nat) : Nd := nl.getD j (9, [])
def nix (nl : List Nd) (q : Nd) : Option Nat := fst_ (fun j => decide (ng nl j = q)) 0 nl.length
/-- the plain segments' types -/
def es_ (B : Bk) (i : Nat) : List Nat := ((sg_ B i).filter (fun x => decide (x ≠ 40))).map typ
def PSf (B : Bk) (q : Nd) (r : Nat) : Bool := thN B r && (decide (ro_ B r = q.1) && (decide (q.2 ≠ []) && q.2.isPrefixOf (es_ B r)))
def AT_ (B : Bk) (q : Nd) (r : Nat) : Bool := thN B r && (decide (ro_ B r = q.1) && decide (es_ B r = q.2))
def rsB (B : Bk) (r : Nat) : Bool := decide (pl (sg_ B r) < (sg_ B r).length)
def ENf (B : Bk) (q : Nd) (r : Nat) : Bool := AT_ B q r && (!mtB B r && !rsB B r)
def RSf (B : Bk) (q : Nd) (r : Nat) : Bool := AT_ B q r && (!mtB B r && rsB B r)
def MNf (B : Bk) (q : Nd) (r : Nat) : Bool := AT_ B q r && mtB B r
def srvm (v : Nat) : Nat := [3, 2, 4, 15].getD v 0
/-- which verbs an end serves -/
def srv (x : Int32) : Nat := if x = 0 then 3 else if x = 1 then 2 else if x = 2 then 4 else if x = 3 then 15 else 0
def SVf (B : Bk) (v r : Nat) : Bool := thN B r && (!mtB B r && (srv (vb_ B r)).testBit v)

/-- node lists: the three roots first, each node once -/
def NL (nl : List Nd) : Prop := 3 ≤ nl.length ∧ nl.length ≤ 43 ∧ (∀ i, i < 3 → ng nl i = (i, [])) ∧ (∀ i j, i < nl.length → j < nl.length → ng nl i = ng nl j → i = j) ∧ ∀ k, k < nl.length → ∀ p e, (ng nl k).2 = p ++ [e] → ∃ j, j < nl.length ∧ ng nl j = ((ng nl k).1, p)
/-- what is told of a node is told of one that is there -/
def CLS (nl : List Nd) (PS EN RS MN : Nd → Nat → Bool) : Prop := ∀ q, (∀ k, k < nl.length → ng nl k ≠ q) → ∀ r, r < 10 → PS q r = false ∧ EN q r = false ∧ RS q r = false ∧ MN q r = false
/-- a node's cells -/
def NOD (D : Mem) (nl : List Nd) (PS EN RS MN : Nd → Nat → Bool) (j : Nat) : Prop :=
  D 82 j = nI (ng nl j).1 ∧ D 83 j = nI (mkn (PS (ng nl j)) 10) ∧ D 84 j = nI (mkn (EN (ng nl j)) 10) ∧ D 85 j = nI (mkn (RS (ng nl j)) 10) ∧ D 86 j = nI (mkn (MN (ng nl j)) 10) ∧ ∀ e, e < 7 → D 81 (j * 7 + e) = opI (nix nl ((ng nl j).1, (ng nl j).2 ++ [e]))
def TE (D : Mem) (B : Bk) (nl : List Nd) (PS EN RS MN : Nd → Nat → Bool) (SV : Nat → Nat → Bool) (MO : Nat → Bool) : Prop :=
  D 80 11 = nI nl.length ∧ NL nl ∧ (∀ j, j < nl.length → NOD D nl PS EN RS MN j) ∧ (∀ v, v < 4 → D 88 v = nI (mkn (SV v) 10)) ∧ (∀ r, r < 10 → MO r = true → D 87 r = mo_ B r) ∧ CLS nl PS EN RS MN
theorem nix_some {nl : List Nd} {q : Nd} {k : Nat} (h : nix nl q = some k) : k < nl.length ∧ ng nl k = q := by
  obtain ⟨_, h2, h3, _⟩ := fst_some h
  exact ⟨by omega, of_decide_eq_true h3⟩
theorem nix_of {nl : List Nd} {k : Nat} (hn : NL nl) (h : k < nl.length) : nix nl (ng nl k) = some k := by
  refine fst_intro (Nat.zero_le _) (by omega) (decide_eq_true rfl) (fun x _ hx => decide_eq_false fun e => ?_)
  have := hn.2.2.2.1 x k (by omega) h e
  omega
theorem nix_none {nl : List Nd} {q : Nd} (h : nix nl q = none) {k : Nat} (hk : k < nl.length) : ng nl k ≠ q := by
  have := fst_none h k (Nat.zero_le _) (by omega)
  exact of_decide_eq_false this
/-- the cells behind a node that is added -/
def anL (D : Mem) (n i : Nat) : Mem := fun b x => if b = 81 ∧ n * 7 ≤ x ∧ x < n * 7 + i then -9 else D b x
def anD (D : Mem) (n R : Nat) : Mem := fun b x => if b = 80 ∧ x = 11 then nI (n + 1) else if b = 82 ∧ x = n then nI R else if (83 ≤ b ∧ b ≤ 86) ∧ x = n then 0 else if b = 81 ∧ n * 7 ≤ x ∧ x < n * 7 + 7 then -9 else D b x
theorem anL_0 (D : Mem) (n : Nat) : anL D n 0 = D := by
  funext b x
  unfold anL
  rw [if_neg (by omega)]
theorem anL_s (D : Mem) (n i : Nat) : up2 (anL D n i) 81 (n * 7 + i) (-9) = anL D n (i + 1) := by
  funext b x
  unfold up2 anL
  by_cases h1 : b = 81 ∧ x = n * 7 + i
  · rw [if_pos h1, if_pos ⟨h1.1, by omega, by omega⟩]
  · rw [if_neg h1]
    by_cases h2 : b = 81 ∧ n * 7 ≤ x ∧ x < n * 7 + i
    · rw [if_pos h2, if_pos ⟨h2.1, by omega, by omega⟩]
    · rw [if_neg h2, if_neg (by omega)]
theorem anD_eq (D : Mem) (n R : Nat) : up2 (anL (up2 (up2 (up2 (up2 (up2 D 82 n (nI R)) 83 n 0) 84 n 0) 85 n 0) 86 n 0) n 7) 80 11 (nI (n + 1)) = anD D n R := by
  funext b x
  unfold anD
  by_cases h1 : b = 80 ∧ x = 11
  · rw [if_pos h1]; obtain ⟨rfl, rfl⟩ := h1; exact up2_same
  · rw [if_neg h1, up2_other h1]
    unfold anL
    by_cases h2 : b = 82 ∧ x = n
    · rw [if_pos h2, if_neg (by omega), up2_other (by omega), up2_other (by omega), up2_other (by omega), up2_other (by omega)]
      obtain ⟨rfl, rfl⟩ := h2; exact up2_same
    · rw [if_neg h2]
      by_cases h3 : (83 ≤ b ∧ b ≤ 86) ∧ x = n
      · rw [if_pos h3, if_neg (by omega)]
        obtain ⟨⟨g1, g2⟩, rfl⟩ := h3
        obtain rfl | rfl | rfl | rfl : b = 83 ∨ b = 84 ∨ b = 85 ∨ b = 86 := by omega
        · rw [up2_other (by omega), up2_other (by omega), up2_other (by omega)]; exact up2_same
        · rw [up2_other (by omega), up2_other (by omega)]; exact up2_same
        · rw [up2_other (by omega)]; exact up2_same
        · exact up2_same
      · rw [if_neg h3]
        by_cases h4 : b = 81 ∧ n * 7 ≤ x ∧ x < n * 7 + 7
        · rw [if_pos h4, if_pos h4]
        · rw [if_neg h4, if_neg h4, up2_other (by omega), up2_other (by omega), up2_other (by omega), up2_other (by omega), up2_other h2]
theorem mul7 (n i : Nat) : nI n * 7 + nI i = nI (n * 7 + i) := by
  rw [show nI n * 7 = nI (n * 7) from pk_mul n 7, nI_add]
theorem dX5_addNode_0 : decode cX5_addNode 0 = .ok (.aload_n 0, 1) := by decide +kernel
theorem dX5_addNode_1 : decode cX5_addNode 1 = .ok (.getfield 48, 3) := by decide +kernel
theorem dX5_addNode_4 : decode cX5_addNode 4 = .ok (.istore_n 2, 1) := by decide +kernel
theorem dX5_addNode_5 : decode cX5_addNode 5 = .ok (.aload_n 0, 1) := by decide +kernel
theorem dX5_addNode_6 : decode cX5_addNode 6 = .ok (.getfield 15, 3) := by decide +kernel
theorem dX5_addNode_9 : decode cX5_addNode 9 = .ok (.iload_n 2, 1) := by decide +kernel
theorem dX5_addNode_10 : decode cX5_addNode 10 = .ok (.iload_n 1, 1) := by decide +kernel
theorem dX5_addNode_11 : decode cX5_addNode 11 = .ok (.invokestatic 56, 3) := by decide +kernel
theorem dX5_addNode_14 : decode cX5_addNode 14 = .ok (.aload_n 0, 1) := by decide +kernel
theorem dX5_addNode_15 : decode cX5_addNode 15 = .ok (.getfield 18, 3) := by decide +kernel
theorem dX5_addNode_18 : decode cX5_addNode 18 = .ok (.iload_n 2, 1) := by decide +kernel
theorem dX5_addNode_19 : decode cX5_addNode 19 = .ok (.iconst 0, 1) := by decide +kernel
theorem dX5_addNode_20 : decode cX5_addNode 20 = .ok (.invokestatic 56, 3) := by decide +kernel
theorem dX5_addNode_23 : decode cX5_addNode 23 = .ok (.aload_n 0, 1) := by decide +kernel
theorem dX5_addNode_24 : decode cX5_addNode 24 = .ok (.getfield 21, 3) := by decide +kernel
theorem dX5_addNode_27 : decode cX5_addNode 27 = .ok (.iload_n 2, 1) := by decide +kernel
theorem dX5_addNode_28 : decode cX5_addNode 28 = .ok (.iconst 0, 1) := by decide +kernel
theorem dX5_addNode_29 : decode cX5_addNode 29 = .ok (.invokestatic 56, 3) := by decide +kernel
theorem dX5_addNode_32 : decode cX5_addNode 32 = .ok (.aload_n 0, 1) := by decide +kernel
theorem dX5_addNode_33 : decode cX5_addNode 33 = .ok (.getfield 24, 3) := by decide +kernel
theorem dX5_addNode_36 : decode cX5_addNode 36 = .ok (.iload_n 2, 1) := by decide +kernel
theorem dX5_addNode_37 : decode cX5_addNode 37 = .ok (.iconst 0, 1) := by decide +kernel
theorem dX5_addNode_38 : decode cX5_addNode 38 = .ok (.invokestatic 56, 3) := by decide +kernel
theorem dX5_addNode_41 : decode cX5_addNode 41 = .ok (.aload_n 0, 1) := by decide +kernel
theorem dX5_addNode_42 : decode cX5_addNode 42 = .ok (.getfield 27, 3) := by decide +kernel
theorem dX5_addNode_45 : decode cX5_addNode 45 = .ok (.iload_n 2, 1) := by decide +kernel
theorem dX5_addNode_46 : decode cX5_addNode 46 = .ok (.iconst 0, 1) := by decide +kernel
theorem dX5_addNode_47 : decode cX5_addNode 47 = .ok (.invokestatic 56, 3) := by decide +kernel
theorem dX5_addNode_50 : decode cX5_addNode 50 = .ok (.iconst 0, 1) := by decide +kernel
theorem dX5_addNode_51 : decode cX5_addNode 51 = .ok (.istore_n 3, 1) := by decide +kernel
theorem dX5_addNode_52 : decode cX5_addNode 52 = .ok (.iload_n 3, 1) := by decide +kernel
theorem dX5_addNode_53 : decode cX5_addNode 53 = .ok (.bipush 7, 2) := by decide +kernel
theorem dX5_addNode_55 : decode cX5_addNode 55 = .ok (.if_icmp .ge 24, 3) := by decide +kernel
theorem dX5_addNode_58 : decode cX5_addNode 58 = .ok (.aload_n 0, 1) := by decide +kernel
theorem dX5_addNode_59 : decode cX5_addNode 59 = .ok (.getfield 11, 3) := by decide +kernel
theorem dX5_addNode_62 : decode cX5_addNode 62 = .ok (.iload_n 2, 1) := by decide +kernel
theorem dX5_addNode_63 : decode cX5_addNode 63 = .ok (.bipush 7, 2) := by decide +kernel
theorem dX5_addNode_65 : decode cX5_addNode 65 = .ok (.imul, 1) := by decide +kernel
theorem dX5_addNode_66 : decode cX5_addNode 66 = .ok (.iload_n 3, 1) := by decide +kernel
theorem dX5_addNode_67 : decode cX5_addNode 67 = .ok (.iadd, 1) := by decide +kernel
theorem dX5_addNode_68 : decode cX5_addNode 68 = .ok (.bipush (-9), 2) := by decide +kernel
theorem dX5_addNode_70 : decode cX5_addNode 70 = .ok (.invokestatic 56, 3) := by decide +kernel
theorem dX5_addNode_73 : decode cX5_addNode 73 = .ok (.iinc 3 1, 3) := by decide +kernel
theorem dX5_addNode_76 : decode cX5_addNode 76 = .ok (.goto (-24), 3) := by decide +kernel
theorem dX5_addNode_79 : decode cX5_addNode 79 = .ok (.aload_n 0, 1) := by decide +kernel
theorem dX5_addNode_80 : decode cX5_addNode 80 = .ok (.dup, 1) := by decide +kernel
theorem dX5_addNode_81 : decode cX5_addNode 81 = .ok (.getfield 48, 3) := by decide +kernel
theorem dX5_addNode_84 : decode cX5_addNode 84 = .ok (.iconst 1, 1) := by decide +kernel
theorem dX5_addNode_85 : decode cX5_addNode 85 = .ok (.iadd, 1) := by decide +kernel
theorem dX5_addNode_86 : decode cX5_addNode 86 = .ok (.putfield 48, 3) := by decide +kernel
theorem dX5_addNode_89 : decode cX5_addNode 89 = .ok (.iload_n 2, 1) := by decide +kernel
theorem dX5_addNode_90 : decode cX5_addNode 90 = .ok (.ireturn, 1) := by decide +kernel
theorem lp_X5_addNode {n R : Nat} {D1 D : Mem} (hn : n < 43) (hs : D1 80 11 = nI n) (he : up2 (anL D1 n 7) 80 11 (nI (n + 1)) = anD D n R) : ∀ (m : Nat) (i : Nat), i + m = 7 → X 2 138 j_X5_addNode 52 [some (.ref 80), some (.int (nI R)), some (.int (nI n)), some (.int (nI i))] [] (138, P0, anL D1 n i) (fun x σ => x = [.int (nI n)] ∧ σ = wd (anD D n R)) := by
  intro m
  induction m with
  | zero =>
    intro i hi
    have hly : (lay 82).2 = 43 ∧ (lay 83).2 = 43 ∧ (lay 84).2 = 43 ∧ (lay 85).2 = 43 ∧ (lay 86).2 = 43 ∧ (lay 81).2 = 301 ∧ (lay 87).2 = 10 ∧ (lay 88).2 = 4 ∧ (lay 89).2 = 3 ∧ (lay 90).2 = 3 ∧ (lay 91).2 = 3 := by decide
    refine X_iload_n (nx := 53) dX5_addNode_52 rfl rfl rfl ?_
    refine X_bipush (v := nI 7) (nx := 55) dX5_addNode_53 rfl rfl ?_
    refine X_icmp_ge (tgt := 79) (nx := 58) dX5_addNode_55 rfl rfl (fun h55 => ?_) (fun h55 => ?_)
    · skip
      refine X_aload_n (nx := 80) dX5_addNode_79 rfl rfl rfl ?_
      refine X_dup (nx := 81) dX5_addNode_80 rfl rfl ?_
      refine M_getI (nx := 84) dX5_addNode_81 rfl fl_RX5_48 rfl (by first | assumption | rfl | decide | omega) (by first | assumption | rfl | decide | omega) ?_
      refine X_top ((show anL D1 n i 80 11 = nI n by unfold anL; rw [if_neg (by omega)]; exact hs)) ?_
      refine X_iconst (v := 1) (nx := 85) dX5_addNode_84 rfl rfl ?_
      refine X_iadd (nx := 86) dX5_addNode_85 rfl ?_
      refine X_top (nI_1 _) ?_
      refine M_putI (nx := 89) dX5_addNode_86 rfl fl_RX5_48 rfl rfl (by first | assumption | rfl | decide | omega) (by first | assumption | rfl | decide | omega) ?_
      refine X_iload_n (nx := 90) dX5_addNode_89 rfl rfl rfl ?_
      exact Y_reti dX5_addNode_90 (Or.inl rfl) rfl (by rw [show i = 7 by omega]; exact he)
    · exact absurd h55 (fun q => q (nI_le (by omega) (by omega)))
  | succ m ih =>
    intro i hi
    have hly : (lay 82).2 = 43 ∧ (lay 83).2 = 43 ∧ (lay 84).2 = 43 ∧ (lay 85).2 = 43 ∧ (lay 86).2 = 43 ∧ (lay 81).2 = 301 ∧ (lay 87).2 = 10 ∧ (lay 88).2 = 4 ∧ (lay 89).2 = 3 ∧ (lay 90).2 = 3 ∧ (lay 91).2 = 3 := by decide
    refine X_iload_n (nx := 53) dX5_addNode_52 rfl rfl rfl ?_
    refine X_bipush (v := nI 7) (nx := 55) dX5_addNode_53 rfl rfl ?_
    refine X_icmp_ge (tgt := 79) (nx := 58) dX5_addNode_55 rfl rfl (fun h55 => ?_) (fun h55 => ?_)
    · exact absurd h55 (nI_ge (by omega) (by omega))
    · skip
      refine X_aload_n (nx := 59) dX5_addNode_58 rfl rfl rfl ?_
      refine M_getP (nx := 62) dX5_addNode_59 rfl fl_RX5_11 rfl (by first | assumption | rfl | decide | omega) (by first | assumption | rfl | decide | omega) (by first | assumption | rfl | decide | omega) ?_
      refine X_iload_n (nx := 63) dX5_addNode_62 rfl rfl rfl ?_
      refine X_bipush (v := 7) (nx := 65) dX5_addNode_63 rfl rfl ?_
      refine X_imul (nx := 66) dX5_addNode_65 rfl ?_
      refine X_iload_n (nx := 67) dX5_addNode_66 rfl rfl rfl ?_
      refine X_iadd (nx := 68) dX5_addNode_67 rfl ?_
      refine X_top (mul7 n i) ?_
      refine X_bipush (v := -9) (nx := 70) dX5_addNode_68 rfl rfl ?_
      refine Y_Sv3 (nx := 73) dX5_addNode_70 rfl ml_RX5_56 kj_X7_put ks_X7_put (sp_X7_put (i := n * 7 + i) (by decide) (by decide) rfl (by omega)) (by first | decide | omega) (by exact Nat.le_of_ble_eq_true rfl) ?_
      refine X_iinc (nx := 76) dX5_addNode_73 rfl (by decide) rfl (by first | exact ii1 _ | rfl) rfl (st_s (st_s (st_s (st_0)))) ?_
      refine X_goto (tgt := 52) dX5_addNode_76 rfl ?_
      rw [anL_s]
      exact ih (i + 1) (by omega)
theorem sp_X5_addNode {n R : Nat} {x : Int32} {D : Mem} (hx : x = nI R) (hn : n < 43) (hs : D 80 11 = nI n) : Ei 2 j_X5_addNode [.ref 80, .int x] D (nI n) (anD D n R) := by
  refine E.start 2 (ls := [some (.ref 80), some (.int x), none, none]) (by decide +kernel) (Nat.le_of_ble_eq_true rfl) rfl (Nat.le_refl _) (Nat.le_refl _) ?_
  subst hx
  have hly : (lay 82).2 = 43 ∧ (lay 83).2 = 43 ∧ (lay 84).2 = 43 ∧ (lay 85).2 = 43 ∧ (lay 86).2 = 43 ∧ (lay 81).2 = 301 ∧ (lay 87).2 = 10 ∧ (lay 88).2 = 4 ∧ (lay 89).2 = 3 ∧ (lay 90).2 = 3 ∧ (lay 91).2 = 3 := by decide
  refine X_aload_n (nx := 1) dX5_addNode_0 rfl rfl rfl ?_
  refine M_getI (nx := 4) dX5_addNode_1 rfl fl_RX5_48 rfl (by first | assumption | rfl | decide | omega) (by first | assumption | rfl | decide | omega) ?_
  refine X_top (hs) ?_
  refine X_istore_n (i := 2) (nx := 5) dX5_addNode_4 rfl rfl (by decide) rfl (st_s (st_s (st_0))) ?_
  refine X_aload_n (nx := 6) dX5_addNode_5 rfl rfl rfl ?_
  refine M_getP (nx := 9) dX5_addNode_6 rfl fl_RX5_15 rfl (by first | assumption | rfl | decide | omega) (by first | assumption | rfl | decide | omega) (by first | assumption | rfl | decide | omega) ?_
  refine X_iload_n (nx := 10) dX5_addNode_9 rfl rfl rfl ?_
  refine X_iload_n (nx := 11) dX5_addNode_10 rfl rfl rfl ?_
  refine Y_Sv3 (nx := 14) dX5_addNode_11 rfl ml_RX5_56 kj_X7_put ks_X7_put (sp_X7_put (i := n) (by decide) (by decide) rfl (by omega)) (by first | decide | omega) (by exact Nat.le_of_ble_eq_true rfl) ?_
  refine X_aload_n (nx := 15) dX5_addNode_14 rfl rfl rfl ?_
  refine M_getP (nx := 18) dX5_addNode_15 rfl fl_RX5_18 rfl (by first | assumption | rfl | decide | omega) (by first | assumption | rfl | decide | omega) (by first | assumption | rfl | decide | omega) ?_
  refine X_iload_n (nx := 19) dX5_addNode_18 rfl rfl rfl ?_
  refine X_iconst (v := 0) (nx := 20) dX5_addNode_19 rfl rfl ?_
  refine Y_Sv3 (nx := 23) dX5_addNode_20 rfl ml_RX5_56 kj_X7_put ks_X7_put (sp_X7_put (i := n) (by decide) (by decide) rfl (by omega)) (by first | decide | omega) (by exact Nat.le_of_ble_eq_true rfl) ?_
  refine X_aload_n (nx := 24) dX5_addNode_23 rfl rfl rfl ?_
  refine M_getP (nx := 27) dX5_addNode_24 rfl fl_RX5_21 rfl (by first | assumption | rfl | decide | omega) (by first | assumption | rfl | decide | omega) (by first | assumption | rfl | decide | omega) ?_
  refine X_iload_n (nx := 28) dX5_addNode_27 rfl rfl rfl ?_
  refine X_iconst (v := 0) (nx := 29) dX5_addNode_28 rfl rfl ?_
  refine Y_Sv3 (nx := 32) dX5_addNode_29 rfl ml_RX5_56 kj_X7_put ks_X7_put (sp_X7_put (i := n) (by decide) (by decide) rfl (by omega)) (by first | decide | omega) (by exact Nat.le_of_ble_eq_true rfl) ?_
  refine X_aload_n (nx := 33) dX5_addNode_32 rfl rfl rfl ?_
  refine M_getP (nx := 36) dX5_addNode_33 rfl fl_RX5_24 rfl (by first | assumption | rfl | decide | omega) (by first | assumption | rfl | decide | omega) (by first | assumption | rfl | decide | omega) ?_
  refine X_iload_n (nx := 37) dX5_addNode_36 rfl rfl rfl ?_
  refine X_iconst (v := 0) (nx := 38) dX5_addNode_37 rfl rfl ?_
  refine Y_Sv3 (nx := 41) dX5_addNode_38 rfl ml_RX5_56 kj_X7_put ks_X7_put (sp_X7_put (i := n) (by decide) (by decide) rfl (by omega)) (by first | decide | omega) (by exact Nat.le_of_ble_eq_true rfl) ?_
  refine X_aload_n (nx := 42) dX5_addNode_41 rfl rfl rfl ?_
  refine M_getP (nx := 45) dX5_addNode_42 rfl fl_RX5_27 rfl (by first | assumption | rfl | decide | omega) (by first | assumption | rfl | decide | omega) (by first | assumption | rfl | decide | omega) ?_
  refine X_iload_n (nx := 46) dX5_addNode_45 rfl rfl rfl ?_
  refine X_iconst (v := 0) (nx := 47) dX5_addNode_46 rfl rfl ?_
  refine Y_Sv3 (nx := 50) dX5_addNode_47 rfl ml_RX5_56 kj_X7_put ks_X7_put (sp_X7_put (i := n) (by decide) (by decide) rfl (by omega)) (by first | decide | omega) (by exact Nat.le_of_ble_eq_true rfl) ?_
  refine X_iconst (v := 0) (nx := 51) dX5_addNode_50 rfl rfl ?_
  refine X_istore_n (i := 3) (nx := 52) dX5_addNode_51 rfl rfl (by decide) rfl (st_s (st_s (st_s (st_0)))) ?_
  have hq := lp_X5_addNode (D1 := up2 (up2 (up2 (up2 (up2 D 82 n (nI R)) 83 n 0) 84 n 0) 85 n 0) 86 n 0) hn (by rw [up2_other (by omega), up2_other (by omega), up2_other (by omega), up2_other (by omega), up2_other (by omega)]; exact hs) (anD_eq D n R) 7 0 rfl
  rw [anL_0] at hq
  exact hq
theorem dX5_mark_0 : decode cX5_mark 0 = .ok (.aload_n 0, 1) := by decide +kernel
theorem dX5_mark_1 : decode cX5_mark 1 = .ok (.iload_n 1, 1) := by decide +kernel
theorem dX5_mark_2 : decode cX5_mark 2 = .ok (.aload_n 0, 1) := by decide +kernel
theorem dX5_mark_3 : decode cX5_mark 3 = .ok (.iload_n 1, 1) := by decide +kernel
theorem dX5_mark_4 : decode cX5_mark 4 = .ok (.invokestatic 63, 3) := by decide +kernel
theorem dX5_mark_7 : decode cX5_mark 7 = .ok (.iconst 1, 1) := by decide +kernel
theorem dX5_mark_8 : decode cX5_mark 8 = .ok (.iload_n 2, 1) := by decide +kernel
theorem dX5_mark_9 : decode cX5_mark 9 = .ok (.ishl, 1) := by decide +kernel
theorem dX5_mark_10 : decode cX5_mark 10 = .ok (.ior, 1) := by decide +kernel
theorem dX5_mark_11 : decode cX5_mark 11 = .ok (.invokestatic 56, 3) := by decide +kernel
theorem dX5_mark_14 : decode cX5_mark 14 = .ok (.return_, 1) := by decide +kernel
theorem sp_X5_mark {a i k w : Nat} {x y : Int32} {D : Mem} (ha : a < 138) (hc : (lay a).1 = 8) (hx : x = nI i) (hi : i < (lay a).2) (hy : y = nI k) (hk : k < 31) (hw : D a i = nI w) : Ev 2 j_X5_mark [.ref a, .int x, .int y] D (up2 D a i (nI (w ||| 2 ^ k))) := by
  refine E.start 0 (ls := [some (.ref a), some (.int x), some (.int y)]) (by decide +kernel) (Nat.le_of_ble_eq_true rfl) rfl (Nat.le_refl _) (Nat.le_refl _) ?_
  subst hx; subst hy
  refine X_aload_n (nx := 1) dX5_mark_0 rfl rfl rfl ?_
  refine X_iload_n (nx := 2) dX5_mark_1 rfl rfl rfl ?_
  refine X_aload_n (nx := 3) dX5_mark_2 rfl rfl rfl ?_
  refine X_iload_n (nx := 4) dX5_mark_3 rfl rfl rfl ?_
  refine Y_Si2 (nx := 7) dX5_mark_4 rfl ml_RX5_63 kj_X7_numberAt ks_X7_numberAt (sp_X7_numberAt ha hc rfl hi) (by first | decide | omega) (by exact Nat.le_of_ble_eq_true rfl) ?_
  refine X_iconst (v := 1) (nx := 8) dX5_mark_7 rfl rfl ?_
  refine X_iload_n (nx := 9) dX5_mark_8 rfl rfl rfl ?_
  refine X_ishl (nx := 10) dX5_mark_9 rfl ?_
  refine X_ior (nx := 11) dX5_mark_10 rfl ?_
  refine X_top ((by rw [hw, one_shl k hk, nI_or])) ?_
  refine Y_Sv3 (nx := 14) dX5_mark_11 rfl ml_RX5_56 kj_X7_put ks_X7_put (sp_X7_put ha hc rfl hi) (by first | decide | omega) (by exact Nat.le_of_ble_eq_true rfl) ?_
  exact Y_retv dX5_mark_14 rfl rfl
/-- how many of the first n nodes are a router's -/
def ndc (nl : List Nd) (R : Nat) : Nat → Nat
  | 0 => 0
  | n + 1 => if (ng nl n).1 = R then ndc nl R n + 1 else ndc nl R n
theorem dX5_nodesOf_0 : decode cX5_nodesOf 0 = .ok (.iconst 0, 1) := by decide +kernel
theorem dX5_nodesOf_1 : decode cX5_nodesOf 1 = .ok (.istore_n 2, 1) := by decide +kernel
theorem dX5_nodesOf_2 : decode cX5_nodesOf 2 = .ok (.iconst 0, 1) := by decide +kernel
theorem dX5_nodesOf_3 : decode cX5_nodesOf 3 = .ok (.istore_n 3, 1) := by decide +kernel
theorem dX5_nodesOf_4 : decode cX5_nodesOf 4 = .ok (.iload_n 3, 1) := by decide +kernel
theorem dX5_nodesOf_5 : decode cX5_nodesOf 5 = .ok (.aload_n 0, 1) := by decide +kernel
theorem dX5_nodesOf_6 : decode cX5_nodesOf 6 = .ok (.getfield 48, 3) := by decide +kernel
theorem dX5_nodesOf_9 : decode cX5_nodesOf 9 = .ok (.if_icmp .ge 24, 3) := by decide +kernel
theorem dX5_nodesOf_12 : decode cX5_nodesOf 12 = .ok (.aload_n 0, 1) := by decide +kernel
theorem dX5_nodesOf_13 : decode cX5_nodesOf 13 = .ok (.getfield 15, 3) := by decide +kernel
theorem dX5_nodesOf_16 : decode cX5_nodesOf 16 = .ok (.iload_n 3, 1) := by decide +kernel
theorem dX5_nodesOf_17 : decode cX5_nodesOf 17 = .ok (.invokestatic 63, 3) := by decide +kernel
theorem dX5_nodesOf_20 : decode cX5_nodesOf 20 = .ok (.iload_n 1, 1) := by decide +kernel
theorem dX5_nodesOf_21 : decode cX5_nodesOf 21 = .ok (.if_icmp .ne 6, 3) := by decide +kernel
theorem dX5_nodesOf_24 : decode cX5_nodesOf 24 = .ok (.iinc 2 1, 3) := by decide +kernel
theorem dX5_nodesOf_27 : decode cX5_nodesOf 27 = .ok (.iinc 3 1, 3) := by decide +kernel
theorem dX5_nodesOf_30 : decode cX5_nodesOf 30 = .ok (.goto (-26), 3) := by decide +kernel
theorem dX5_nodesOf_33 : decode cX5_nodesOf 33 = .ok (.iload_n 2, 1) := by decide +kernel
theorem dX5_nodesOf_34 : decode cX5_nodesOf 34 = .ok (.ireturn, 1) := by decide +kernel
theorem lp_X5_nodesOf {B : Bk} {nl : List Nd} {PS EN RS MN : Nd → Nat → Bool} {SV : Nat → Nat → Bool} {MO : Nat → Bool} {D : Mem} (h : TE D B nl PS EN RS MN SV MO) {R : Nat} (hR : R < 3) (hO : ∀ j, j < nl.length → (ng nl j).1 < 3) : ∀ (m : Nat) (i : Nat), i + m = nl.length → X 2 138 j_X5_nodesOf 4 [some (.ref 80), some (.int (nI R)), some (.int (nI (ndc nl R i))), some (.int (nI i))] [] (138, P0, D) (fun x σ => x = [.int (nI (ndc nl R nl.length))] ∧ σ = wd D) := by
  intro m
  induction m with
  | zero =>
    intro i hi
    have hn := h.2.1.2.1
    have hn3 := h.2.1.1
    have hly : (lay 82).2 = 43 ∧ (lay 83).2 = 43 ∧ (lay 84).2 = 43 ∧ (lay 85).2 = 43 ∧ (lay 86).2 = 43 ∧ (lay 81).2 = 301 ∧ (lay 87).2 = 10 ∧ (lay 88).2 = 4 ∧ (lay 89).2 = 3 ∧ (lay 90).2 = 3 ∧ (lay 91).2 = 3 := by decide
    refine X_iload_n (nx := 5) dX5_nodesOf_4 rfl rfl rfl ?_
    refine X_aload_n (nx := 6) dX5_nodesOf_5 rfl rfl rfl ?_
    refine M_getI (nx := 9) dX5_nodesOf_6 rfl fl_RX5_48 rfl (by first | assumption | rfl | decide | omega) (by first | assumption | rfl | decide | omega) ?_
    refine X_top (h.1) ?_
    refine X_icmp_ge (tgt := 33) (nx := 12) dX5_nodesOf_9 rfl rfl (fun h9 => ?_) (fun h9 => ?_)
    · skip
      refine X_iload_n (nx := 34) dX5_nodesOf_33 rfl rfl rfl ?_
      exact Y_reti dX5_nodesOf_34 (Or.inl rfl) (by rw [show i = nl.length by omega]) rfl
    · exact absurd h9 (fun q => q (nI_le (by omega) (by omega)))
  | succ m ih =>
    intro i hi
    have hn := h.2.1.2.1
    have hn3 := h.2.1.1
    have hly : (lay 82).2 = 43 ∧ (lay 83).2 = 43 ∧ (lay 84).2 = 43 ∧ (lay 85).2 = 43 ∧ (lay 86).2 = 43 ∧ (lay 81).2 = 301 ∧ (lay 87).2 = 10 ∧ (lay 88).2 = 4 ∧ (lay 89).2 = 3 ∧ (lay 90).2 = 3 ∧ (lay 91).2 = 3 := by decide
    refine X_iload_n (nx := 5) dX5_nodesOf_4 rfl rfl rfl ?_
    refine X_aload_n (nx := 6) dX5_nodesOf_5 rfl rfl rfl ?_
    refine M_getI (nx := 9) dX5_nodesOf_6 rfl fl_RX5_48 rfl (by first | assumption | rfl | decide | omega) (by first | assumption | rfl | decide | omega) ?_
    refine X_top (h.1) ?_
    refine X_icmp_ge (tgt := 33) (nx := 12) dX5_nodesOf_9 rfl rfl (fun h9 => ?_) (fun h9 => ?_)
    · exact absurd h9 (nI_ge (by omega) (by omega))
    · skip
      refine X_aload_n (nx := 13) dX5_nodesOf_12 rfl rfl rfl ?_
      refine M_getP (nx := 16) dX5_nodesOf_13 rfl fl_RX5_15 rfl (by first | assumption | rfl | decide | omega) (by first | assumption | rfl | decide | omega) (by first | assumption | rfl | decide | omega) ?_
      refine X_iload_n (nx := 17) dX5_nodesOf_16 rfl rfl rfl ?_
      refine Y_Si2 (nx := 20) dX5_nodesOf_17 rfl ml_RX5_63 kj_X7_numberAt ks_X7_numberAt (sp_X7_numberAt (i := i) (by decide) (by decide) rfl (by omega)) (by first | decide | omega) (by exact Nat.le_of_ble_eq_true rfl) ?_
      refine X_top ((h.2.2.1 i (by omega)).1) ?_
      refine X_iload_n (nx := 21) dX5_nodesOf_20 rfl rfl rfl ?_
      refine X_icmp_ne (tgt := 27) (nx := 24) dX5_nodesOf_21 rfl rfl (fun h21 => ?_) (fun h21 => ?_)
      · skip
        rw [nI_eq (by have := hO i (by omega); omega) (by omega)] at h21
        refine X_iinc (nx := 30) dX5_nodesOf_27 rfl (by decide) rfl (by first | exact ii1 _ | rfl) rfl (st_s (st_s (st_s (st_0)))) ?_
        refine X_goto (tgt := 4) dX5_nodesOf_30 rfl ?_
        first
          | (have e1 : ndc nl R (i + 1) = ndc nl R i + 1 := if_pos h21; rw [← e1]; exact ih (i + 1) (by omega))
          | (have e1 : ndc nl R (i + 1) = ndc nl R i := if_neg h21; rw [← e1]; exact ih (i + 1) (by omega))
      · skip
        rw [nI_eq (by have := hO i (by omega); omega) (by omega)] at h21
        refine X_iinc (nx := 27) dX5_nodesOf_24 rfl (by decide) rfl (by first | exact ii1 _ | rfl) rfl (st_s (st_s (st_0))) ?_
        refine X_iinc (nx := 30) dX5_nodesOf_27 rfl (by decide) rfl (by first | exact ii1 _ | rfl) rfl (st_s (st_s (st_s (st_0)))) ?_
        refine X_goto (tgt := 4) dX5_nodesOf_30 rfl ?_
        first
          | (have e1 : ndc nl R (i + 1) = ndc nl R i + 1 := if_pos h21; rw [← e1]; exact ih (i + 1) (by omega))
          | (have e1 : ndc nl R (i + 1) = ndc nl R i := if_neg h21; rw [← e1]; exact ih (i + 1) (by omega))
theorem sp_X5_nodesOf {B : Bk} {nl : List Nd} {PS EN RS MN : Nd → Nat → Bool} {SV : Nat → Nat → Bool} {MO : Nat → Bool} {R : Nat} {x : Int32} {D : Mem} (h : TE D B nl PS EN RS MN SV MO) (hx : x = nI R) (hR : R < 3) (hO : ∀ j, j < nl.length → (ng nl j).1 < 3) : Ei 2 j_X5_nodesOf [.ref 80, .int x] D (nI (ndc nl R nl.length)) (D) := by
  refine E.start 2 (ls := [some (.ref 80), some (.int x), none, none]) (by decide +kernel) (Nat.le_of_ble_eq_true rfl) rfl (Nat.le_refl _) (Nat.le_refl _) ?_
  subst hx
  refine X_iconst (v := 0) (nx := 1) dX5_nodesOf_0 rfl rfl ?_
  refine X_istore_n (i := 2) (nx := 2) dX5_nodesOf_1 rfl rfl (by decide) rfl (st_s (st_s (st_0))) ?_
  refine X_iconst (v := 0) (nx := 3) dX5_nodesOf_2 rfl rfl ?_
  refine X_istore_n (i := 3) (nx := 4) dX5_nodesOf_3 rfl rfl (by decide) rfl (st_s (st_s (st_s (st_0)))) ?_
  exact lp_X5_nodesOf h hR hO nl.length 0 (by omega)
/-- the node behind by an edge, if a route of w goes through it -/
def nbh (nl : List Nd) (PS : Nd → Nat → Bool) (q : Nd) (e w : Nat) : Option Nat := match nix nl (q.1, q.2 ++ [e]) with
  | none => none
  | some k => if mkn (PS (q.1, q.2 ++ [e])) 10 &&& w = 0 then none else some k
theorem nI_0' {n : Nat} (h : n < 2147483648) : nI n = 0 ↔ n = 0 := by
  rw [show (0 : Int32) = nI 0 from rfl]
  exact nI_eq (by omega) (by omega)
theorem dX5_nodeBehind_0 : decode cX5_nodeBehind 0 = .ok (.aload_n 0, 1) := by decide +kernel
theorem dX5_nodeBehind_1 : decode cX5_nodeBehind 1 = .ok (.getfield 11, 3) := by decide +kernel
theorem dX5_nodeBehind_4 : decode cX5_nodeBehind 4 = .ok (.iload_n 1, 1) := by decide +kernel
theorem dX5_nodeBehind_5 : decode cX5_nodeBehind 5 = .ok (.bipush 7, 2) := by decide +kernel
theorem dX5_nodeBehind_7 : decode cX5_nodeBehind 7 = .ok (.imul, 1) := by decide +kernel
theorem dX5_nodeBehind_8 : decode cX5_nodeBehind 8 = .ok (.iload_n 2, 1) := by decide +kernel
theorem dX5_nodeBehind_9 : decode cX5_nodeBehind 9 = .ok (.iadd, 1) := by decide +kernel
theorem dX5_nodeBehind_10 : decode cX5_nodeBehind 10 = .ok (.invokestatic 63, 3) := by decide +kernel
theorem dX5_nodeBehind_13 : decode cX5_nodeBehind 13 = .ok (.istore 4, 2) := by decide +kernel
theorem dX5_nodeBehind_15 : decode cX5_nodeBehind 15 = .ok (.iload 4, 2) := by decide +kernel
theorem dX5_nodeBehind_17 : decode cX5_nodeBehind 17 = .ok (.ifCond .lt 21, 3) := by decide +kernel
theorem dX5_nodeBehind_20 : decode cX5_nodeBehind 20 = .ok (.aload_n 0, 1) := by decide +kernel
theorem dX5_nodeBehind_21 : decode cX5_nodeBehind 21 = .ok (.getfield 18, 3) := by decide +kernel
theorem dX5_nodeBehind_24 : decode cX5_nodeBehind 24 = .ok (.iload 4, 2) := by decide +kernel
theorem dX5_nodeBehind_26 : decode cX5_nodeBehind 26 = .ok (.invokestatic 63, 3) := by decide +kernel
theorem dX5_nodeBehind_29 : decode cX5_nodeBehind 29 = .ok (.iload_n 3, 1) := by decide +kernel
theorem dX5_nodeBehind_30 : decode cX5_nodeBehind 30 = .ok (.iand, 1) := by decide +kernel
theorem dX5_nodeBehind_31 : decode cX5_nodeBehind 31 = .ok (.ifCond .eq 7, 3) := by decide +kernel
theorem dX5_nodeBehind_34 : decode cX5_nodeBehind 34 = .ok (.iconst 1, 1) := by decide +kernel
theorem dX5_nodeBehind_35 : decode cX5_nodeBehind 35 = .ok (.goto 4, 3) := by decide +kernel
theorem dX5_nodeBehind_38 : decode cX5_nodeBehind 38 = .ok (.iconst 0, 1) := by decide +kernel
theorem dX5_nodeBehind_39 : decode cX5_nodeBehind 39 = .ok (.istore 5, 2) := by decide +kernel
theorem dX5_nodeBehind_41 : decode cX5_nodeBehind 41 = .ok (.iload 5, 2) := by decide +kernel
theorem dX5_nodeBehind_43 : decode cX5_nodeBehind 43 = .ok (.ifCond .eq 8, 3) := by decide +kernel
theorem dX5_nodeBehind_46 : decode cX5_nodeBehind 46 = .ok (.iload 4, 2) := by decide +kernel
theorem dX5_nodeBehind_48 : decode cX5_nodeBehind 48 = .ok (.goto 5, 3) := by decide +kernel
theorem dX5_nodeBehind_51 : decode cX5_nodeBehind 51 = .ok (.bipush (-9), 2) := by decide +kernel
theorem dX5_nodeBehind_53 : decode cX5_nodeBehind 53 = .ok (.ireturn, 1) := by decide +kernel
theorem sp_X5_nodeBehind {B : Bk} {nl : List Nd} {PS EN RS MN : Nd → Nat → Bool} {SV : Nat → Nat → Bool} {MO : Nat → Bool} {j e w : Nat} {x y z : Int32} {D : Mem} (h : TE D B nl PS EN RS MN SV MO) (hx : x = nI j) (hj : j < nl.length) (hy : y = nI e) (he : e < 7) (hz : z = nI w) (hw : w < 1024) : Ei 2 j_X5_nodeBehind [.ref 80, .int x, .int y, .int z] D (opI (nbh nl PS (ng nl j) e w)) (D) := by
  refine E.start 2 (ls := [some (.ref 80), some (.int x), some (.int y), some (.int z), none, none]) (by decide +kernel) (Nat.le_of_ble_eq_true rfl) rfl (Nat.le_refl _) (Nat.le_refl _) ?_
  subst hx; subst hy; subst hz
  have hn := h.2.1.2.1
  have hn3 := h.2.1.1
  have hly : (lay 82).2 = 43 ∧ (lay 83).2 = 43 ∧ (lay 84).2 = 43 ∧ (lay 85).2 = 43 ∧ (lay 86).2 = 43 ∧ (lay 81).2 = 301 ∧ (lay 87).2 = 10 ∧ (lay 88).2 = 4 ∧ (lay 89).2 = 3 ∧ (lay 90).2 = 3 ∧ (lay 91).2 = 3 := by decide
  have hnd := (h.2.2.1 j hj).2.2.2.2.2 e he
  have hlt : ∀ k, nix nl ((ng nl j).1, (ng nl j).2 ++ [e]) = some k → k < nl.length := fun k hk => (nix_some hk).1
  refine X_aload_n (nx := 1) dX5_nodeBehind_0 rfl rfl rfl ?_
  refine M_getP (nx := 4) dX5_nodeBehind_1 rfl fl_RX5_11 rfl (by first | assumption | rfl | decide | omega) (by first | assumption | rfl | decide | omega) (by first | assumption | rfl | decide | omega) ?_
  refine X_iload_n (nx := 5) dX5_nodeBehind_4 rfl rfl rfl ?_
  refine X_bipush (v := 7) (nx := 7) dX5_nodeBehind_5 rfl rfl ?_
  refine X_imul (nx := 8) dX5_nodeBehind_7 rfl ?_
  refine X_iload_n (nx := 9) dX5_nodeBehind_8 rfl rfl rfl ?_
  refine X_iadd (nx := 10) dX5_nodeBehind_9 rfl ?_
  refine X_top (mul7 j e) ?_
  refine Y_Si2 (nx := 13) dX5_nodeBehind_10 rfl ml_RX5_63 kj_X7_numberAt ks_X7_numberAt (sp_X7_numberAt (i := j * 7 + e) (by decide) (by decide) rfl (by omega)) (by first | decide | omega) (by exact Nat.le_of_ble_eq_true rfl) ?_
  refine X_top (hnd) ?_
  refine X_istore (i := 4) (nx := 15) dX5_nodeBehind_13 rfl (by decide) rfl (st_s (st_s (st_s (st_s (st_0))))) ?_
  refine X_iload (nx := 17) dX5_nodeBehind_15 rfl rfl ?_
  refine X_if_lt (tgt := 38) (nx := 20) dX5_nodeBehind_17 rfl rfl (fun h17 => ?_) (fun h17 => ?_)
  · skip
    have hk := opI_lt h17 (fun k hk => by have := hlt k hk; omega)
    refine X_iconst (v := 0) (nx := 39) dX5_nodeBehind_38 rfl rfl ?_
    refine X_istore (i := 5) (nx := 41) dX5_nodeBehind_39 rfl (by decide) rfl (st_s (st_s (st_s (st_s (st_s (st_0)))))) ?_
    refine X_iload (nx := 43) dX5_nodeBehind_41 rfl rfl ?_
    refine X_if_eq (tgt := 51) (nx := 46) dX5_nodeBehind_43 rfl rfl (fun h43 => ?_) (fun h43 => ?_)
    · skip
      refine X_bipush (v := -9) (nx := 53) dX5_nodeBehind_51 rfl rfl ?_
      exact Y_reti dX5_nodeBehind_53 (Or.inl rfl) (by first | exact absurd h43 (by decide) | (unfold nbh; rw [hk]; done) | (unfold nbh; rw [hk]; rfl) | (unfold nbh; rw [hk]; show _ = opI (if _ then none else some k); rw [if_pos h31]; rfl) | (unfold nbh; rw [hk]; show _ = opI (if _ then none else some k); rw [if_neg h31]; rfl)) rfl
    · exact absurd h43 (by decide)
  · skip
    obtain ⟨k, hk⟩ := Option.isSome_iff_exists.mp (opI_ge h17)
    have hkl := hlt k hk
    have hp := (h.2.2.1 k hkl).2.1
    rw [(nix_some hk).2] at hp
    rw [hk]
    have ek : opI (some k) = nI k := rfl
    rw [ek]
    have ham := mkn_lt (PS ((ng nl j).1, (ng nl j).2 ++ [e])) 10
    have hal : mkn (PS ((ng nl j).1, (ng nl j).2 ++ [e])) 10 &&& w < 2147483648 := Nat.lt_of_le_of_lt Nat.and_le_left (by omega)
    refine X_aload_n (nx := 21) dX5_nodeBehind_20 rfl rfl rfl ?_
    refine M_getP (nx := 24) dX5_nodeBehind_21 rfl fl_RX5_18 rfl (by first | assumption | rfl | decide | omega) (by first | assumption | rfl | decide | omega) (by first | assumption | rfl | decide | omega) ?_
    refine X_iload (nx := 26) dX5_nodeBehind_24 rfl rfl ?_
    refine Y_Si2 (nx := 29) dX5_nodeBehind_26 rfl ml_RX5_63 kj_X7_numberAt ks_X7_numberAt (sp_X7_numberAt (i := k) (by decide) (by decide) rfl (by omega)) (by first | decide | omega) (by exact Nat.le_of_ble_eq_true rfl) ?_
    refine X_top (hp) ?_
    refine X_iload_n (nx := 30) dX5_nodeBehind_29 rfl rfl rfl ?_
    refine X_iand (nx := 31) dX5_nodeBehind_30 rfl ?_
    refine X_top (nI_and _ _) ?_
    refine X_if_eq (tgt := 38) (nx := 34) dX5_nodeBehind_31 rfl rfl (fun h31 => ?_) (fun h31 => ?_)
    · skip
      rw [nI_0' hal] at h31
      refine X_iconst (v := 0) (nx := 39) dX5_nodeBehind_38 rfl rfl ?_
      refine X_istore (i := 5) (nx := 41) dX5_nodeBehind_39 rfl (by decide) rfl (st_s (st_s (st_s (st_s (st_s (st_0)))))) ?_
      refine X_iload (nx := 43) dX5_nodeBehind_41 rfl rfl ?_
      refine X_if_eq (tgt := 51) (nx := 46) dX5_nodeBehind_43 rfl rfl (fun h43 => ?_) (fun h43 => ?_)
      · skip
        refine X_bipush (v := -9) (nx := 53) dX5_nodeBehind_51 rfl rfl ?_
        exact Y_reti dX5_nodeBehind_53 (Or.inl rfl) (by first | exact absurd h43 (by decide) | (unfold nbh; rw [hk]; done) | (unfold nbh; rw [hk]; rfl) | (unfold nbh; rw [hk]; show _ = opI (if _ then none else some k); rw [if_pos h31]; rfl) | (unfold nbh; rw [hk]; show _ = opI (if _ then none else some k); rw [if_neg h31]; rfl)) rfl
      · exact absurd h43 (by decide)
    · skip
      rw [nI_0' hal] at h31
      refine X_iconst (v := 1) (nx := 35) dX5_nodeBehind_34 rfl rfl ?_
      refine X_goto (tgt := 39) dX5_nodeBehind_35 rfl ?_
      refine X_istore (i := 5) (nx := 41) dX5_nodeBehind_39 rfl (by decide) rfl (st_s (st_s (st_s (st_s (st_s (st_0)))))) ?_
      refine X_iload (nx := 43) dX5_nodeBehind_41 rfl rfl ?_
      refine X_if_eq (tgt := 51) (nx := 46) dX5_nodeBehind_43 rfl rfl (fun h43 => ?_) (fun h43 => ?_)
      · exact absurd h43 (by decide)
      · skip
        refine X_iload (nx := 48) dX5_nodeBehind_46 rfl rfl ?_
        refine X_goto (tgt := 53) dX5_nodeBehind_48 rfl ?_
        exact Y_reti dX5_nodeBehind_53 (Or.inl rfl) (by first | exact absurd h43 (by decide) | (unfold nbh; rw [hk]; done) | (unfold nbh; rw [hk]; rfl) | (unfold nbh; rw [hk]; show _ = opI (if _ then none else some k); rw [if_pos h31]; rfl) | (unfold nbh; rw [hk]; show _ = opI (if _ then none else some k); rw [if_neg h31]; rfl)) rfl
