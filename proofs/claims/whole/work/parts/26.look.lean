/-! LOOK -/
theorem WR.lt {D D' : Mem} {ms : List (Nat × Nat)} {u : Int32} {r : LR} (h : WR D D' ms u r) : (u < 0 ↔ r.1 = none) := by
  rw [h.1]
  cases hr : r.1 with
  | none => exact ⟨fun _ => rfl, fun _ => by decide⟩
  | some x =>
    obtain ⟨e, ml, t⟩ := x
    have := (h.2.2.1 e ml t hr).2.2.2.2
    exact ⟨fun q => absurd q (nI_neg (show e < 2147483648 by omega)), fun q => by cases q⟩
theorem WR.hit {D D' : Mem} {ms : List (Nat × Nat)} {u : Int32} {r : LR} (h : WR D D' ms u r) (hu : ¬ u < 0) : r.1.isSome = true := by
  cases hr : r.1 with
  | none => exact absurd (h.lt.mpr hr) hu
  | some x => rfl
theorem TR.sub {D : Mem} {ms : List (Nat × Nat)} {x : Nat × Nat} (h : TR D (ms ++ [x])) : TR D ms := by
  intro i hi
  have := h i (by simp; omega)
  rw [List.getD_eq_getElem?_getD, List.getElem?_append_left hi, ← List.getD_eq_getElem?_getD] at this
  exact this
theorem TR.add {D : Mem} {ms : List (Nat × Nat)} {i a : Nat} (h : TR D ms) : TR (up2 (up2 D 94 ms.length (nI i)) 95 (ms.length + 1) (nI a)) (ms ++ [(i, a)]) := by
  intro k hk
  simp at hk
  by_cases e : k < ms.length
  · rw [List.getD_eq_getElem?_getD, List.getElem?_append_left e, ← List.getD_eq_getElem?_getD]
    obtain ⟨h1, h2⟩ := h k e
    exact ⟨by rw [up2_other (by omega), up2_other (by omega)]; exact h1, by rw [up2_other (by omega), up2_other (by omega)]; exact h2⟩
  · have : k = ms.length := by omega
    subst this
    rw [List.getD_eq_getElem?_getD, List.getElem?_append_right (Nat.le_refl _)]
    simp only [Nat.sub_self, List.getElem?_cons_zero, Option.getD_some]
    exact ⟨by rw [up2_other (by omega)]; exact up2_same, up2_same⟩
/-- a look from a mount, seen from outside -/
theorem WR.out {D D' : Mem} {ms : List (Nat × Nat)} {u : Int32} {r : LR} {i a : Nat} (h : WR (up2 (up2 D 94 ms.length (nI i)) 95 (ms.length + 1) (nI a)) D' (ms ++ [(i, a)]) u r) : WR D D' ms u r := by
  obtain ⟨a1, a2, a3, a4, a5, a6, a7⟩ := h
  refine ⟨a1, a2.trans (by rw [up2_other (by omega), up2_other (by omega)]), a3, a4.sub, a5.trans (by rw [up2_other (by omega), up2_other (by omega)]), fun x h1 h2 h3 => (a6 x h1 h2 h3).trans (by rw [up2_other (by omega), up2_other (by omega)]), fun b hb => (a7 b hb).trans ?_⟩
  unfold inW at hb
  rw [up2_ne (by omega), up2_ne (by omega)]
theorem lkM_0 {LK : Nd → Nat → List (Nat × Nat) → LR} {B : Bk} {w : Nat} {q : Nd} {a : Nat} {ms : List (Nat × Nat)} : ∀ (n i : Nat), (∀ r, i ≤ r → r < i + n → (MNf B q r && w.testBit r) = false) → lkM LK B w q a ms i n = (none, 0) := by
  intro n
  induction n with
  | zero => intro i h; rfl
  | succ n ih =>
    intro i h
    unfold lkM
    rw [h i (by omega) (by omega), if_neg (by decide)]
    exact ih (i + 1) (fun r h1 h2 => h r (by omega) (by omega))
/-- what a look of n more levels is to do -/
def LKP (n d : Nat) (B : Bk) (K F : Nat → Nat) (L : List Nat) (w v : Nat) : Prop :=
  ∀ (D : Mem) (j a : Nat) (ms : List (Nat × Nat)) (dp : Nat) (q : Nd), n + dp = 7 → WK_ D B K F L w v → j < (nlG B 10).length → ng (nlG B 10) j = q → a ≤ L.length → ms.length ≤ q.1 → q.1 < 3 → TR D ms →
    Rix d j_X6_look [.ref 79, .int (nI j), .int (nI a), .int (nI ms.length), .int (nI dp)] D (fun u D' => WR D D' ms u (lk B w v L K F n q a ms))
theorem MNf_use {B : Bk} {q : Nd} {i : Nat} (hV : VB B) (h : MNf B q i = true) : thN B i = true ∧ mtB B i = true ∧ ro_ B i = q.1 ∧ ∃ m, mo_ B i = nI m ∧ mon B i = m ∧ q.1 < m ∧ m < 3 := by
  unfold MNf AT_ at h
  simp only [Bool.and_eq_true, decide_eq_true_eq] at h
  obtain ⟨⟨h1, h2, _⟩, h3⟩ := h
  have hc : i < cm_ B := by unfold thN at h1; simp only [Bool.and_eq_true, decide_eq_true_eq] at h1; exact h1.1
  obtain ⟨m, g1, g2, g3, _⟩ := (hV.2.2 i hc).mount h3
  refine ⟨h1, h3, h2, m, g1, ?_, by omega, g3⟩
  unfold mon
  rw [g1]
  exact nI_clamp (by omega)
theorem X_fg8 {d k pc : Nat} {j : MI} {a b c d0 e f g o : Option Value} {st : List Value} {σ : Wd} {Q : List Value → Wd → Prop} (hX : X d k j pc [a, b, c, d0, e, f, g, none] st σ Q) : X d k j pc [a, b, c, d0, e, f, g, o] st σ Q := by
  refine X_forget (fun i v h => ?_) hX
  match i, h with
  | 0, h => exact h
  | 1, h => exact h
  | 2, h => exact h
  | 3, h => exact h
  | 4, h => exact h
  | 5, h => exact h
  | 6, h => exact h
  | 7, h => cases h
  | n + 8, h => cases h
theorem X_fg13 {d k pc : Nat} {j : MI} {a b c d0 e f g h0 i0 j0 o1 o2 o3 : Option Value} {st : List Value} {σ : Wd} {Q : List Value → Wd → Prop} (hX : X d k j pc [a, b, c, d0, e, f, g, h0, i0, j0, none, none, none] st σ Q) : X d k j pc [a, b, c, d0, e, f, g, h0, i0, j0, o1, o2, o3] st σ Q := by
  refine X_forget (fun i v h => ?_) hX
  match i, h with
  | 0, h => exact h
  | 1, h => exact h
  | 2, h => exact h
  | 3, h => exact h
  | 4, h => exact h
  | 5, h => exact h
  | 6, h => exact h
  | 7, h => exact h
  | 8, h => exact h
  | 9, h => exact h
  | 10, h => cases h
  | 11, h => cases h
  | 12, h => cases h
  | n + 13, h => cases h
theorem dX6_lookAtMounts_0 : decode cX6_lookAtMounts 0 = .ok (.aload_n 0, 1) := by decide +kernel
theorem dX6_lookAtMounts_1 : decode cX6_lookAtMounts 1 = .ok (.getfield 12, 3) := by decide +kernel
theorem dX6_lookAtMounts_4 : decode cX6_lookAtMounts 4 = .ok (.getfield 118, 3) := by decide +kernel
theorem dX6_lookAtMounts_7 : decode cX6_lookAtMounts 7 = .ok (.iload_n 1, 1) := by decide +kernel
theorem dX6_lookAtMounts_8 : decode cX6_lookAtMounts 8 = .ok (.invokestatic 63, 3) := by decide +kernel
theorem dX6_lookAtMounts_11 : decode cX6_lookAtMounts 11 = .ok (.aload_n 0, 1) := by decide +kernel
theorem dX6_lookAtMounts_12 : decode cX6_lookAtMounts 12 = .ok (.getfield 40, 3) := by decide +kernel
theorem dX6_lookAtMounts_15 : decode cX6_lookAtMounts 15 = .ok (.iand, 1) := by decide +kernel
theorem dX6_lookAtMounts_16 : decode cX6_lookAtMounts 16 = .ok (.istore 5, 2) := by decide +kernel
theorem dX6_lookAtMounts_18 : decode cX6_lookAtMounts 18 = .ok (.iconst 0, 1) := by decide +kernel
theorem dX6_lookAtMounts_19 : decode cX6_lookAtMounts 19 = .ok (.istore 6, 2) := by decide +kernel
theorem dX6_lookAtMounts_21 : decode cX6_lookAtMounts 21 = .ok (.iload 5, 2) := by decide +kernel
theorem dX6_lookAtMounts_23 : decode cX6_lookAtMounts 23 = .ok (.ifCond .eq 81, 3) := by decide +kernel
theorem dX6_lookAtMounts_26 : decode cX6_lookAtMounts 26 = .ok (.iload 6, 2) := by decide +kernel
theorem dX6_lookAtMounts_28 : decode cX6_lookAtMounts 28 = .ok (.bipush 10, 2) := by decide +kernel
theorem dX6_lookAtMounts_30 : decode cX6_lookAtMounts 30 = .ok (.if_icmp .ge 74, 3) := by decide +kernel
theorem dX6_lookAtMounts_33 : decode cX6_lookAtMounts 33 = .ok (.iload 5, 2) := by decide +kernel
theorem dX6_lookAtMounts_35 : decode cX6_lookAtMounts 35 = .ok (.iload 6, 2) := by decide +kernel
theorem dX6_lookAtMounts_37 : decode cX6_lookAtMounts 37 = .ok (.invokestatic 121, 3) := by decide +kernel
theorem dX6_lookAtMounts_40 : decode cX6_lookAtMounts 40 = .ok (.ifCond .eq 58, 3) := by decide +kernel
theorem dX6_lookAtMounts_43 : decode cX6_lookAtMounts 43 = .ok (.aload_n 0, 1) := by decide +kernel
theorem dX6_lookAtMounts_44 : decode cX6_lookAtMounts 44 = .ok (.getfield 25, 3) := by decide +kernel
theorem dX6_lookAtMounts_47 : decode cX6_lookAtMounts 47 = .ok (.iload_n 3, 1) := by decide +kernel
theorem dX6_lookAtMounts_48 : decode cX6_lookAtMounts 48 = .ok (.iload 6, 2) := by decide +kernel
theorem dX6_lookAtMounts_50 : decode cX6_lookAtMounts 50 = .ok (.invokestatic 124, 3) := by decide +kernel
theorem dX6_lookAtMounts_53 : decode cX6_lookAtMounts 53 = .ok (.aload_n 0, 1) := by decide +kernel
theorem dX6_lookAtMounts_54 : decode cX6_lookAtMounts 54 = .ok (.getfield 29, 3) := by decide +kernel
theorem dX6_lookAtMounts_57 : decode cX6_lookAtMounts 57 = .ok (.iload_n 3, 1) := by decide +kernel
theorem dX6_lookAtMounts_58 : decode cX6_lookAtMounts 58 = .ok (.iconst 1, 1) := by decide +kernel
theorem dX6_lookAtMounts_59 : decode cX6_lookAtMounts 59 = .ok (.iadd, 1) := by decide +kernel
theorem dX6_lookAtMounts_60 : decode cX6_lookAtMounts 60 = .ok (.iload_n 2, 1) := by decide +kernel
theorem dX6_lookAtMounts_61 : decode cX6_lookAtMounts 61 = .ok (.invokestatic 124, 3) := by decide +kernel
theorem dX6_lookAtMounts_64 : decode cX6_lookAtMounts 64 = .ok (.aload_n 0, 1) := by decide +kernel
theorem dX6_lookAtMounts_65 : decode cX6_lookAtMounts 65 = .ok (.aload_n 0, 1) := by decide +kernel
theorem dX6_lookAtMounts_66 : decode cX6_lookAtMounts 66 = .ok (.getfield 12, 3) := by decide +kernel
theorem dX6_lookAtMounts_69 : decode cX6_lookAtMounts 69 = .ok (.getfield 128, 3) := by decide +kernel
theorem dX6_lookAtMounts_72 : decode cX6_lookAtMounts 72 = .ok (.iload 6, 2) := by decide +kernel
theorem dX6_lookAtMounts_74 : decode cX6_lookAtMounts 74 = .ok (.invokestatic 63, 3) := by decide +kernel
theorem dX6_lookAtMounts_77 : decode cX6_lookAtMounts 77 = .ok (.iload_n 2, 1) := by decide +kernel
theorem dX6_lookAtMounts_78 : decode cX6_lookAtMounts 78 = .ok (.iload_n 3, 1) := by decide +kernel
theorem dX6_lookAtMounts_79 : decode cX6_lookAtMounts 79 = .ok (.iconst 1, 1) := by decide +kernel
theorem dX6_lookAtMounts_80 : decode cX6_lookAtMounts 80 = .ok (.iadd, 1) := by decide +kernel
theorem dX6_lookAtMounts_81 : decode cX6_lookAtMounts 81 = .ok (.iload 4, 2) := by decide +kernel
theorem dX6_lookAtMounts_83 : decode cX6_lookAtMounts 83 = .ok (.iconst 1, 1) := by decide +kernel
theorem dX6_lookAtMounts_84 : decode cX6_lookAtMounts 84 = .ok (.iadd, 1) := by decide +kernel
theorem dX6_lookAtMounts_85 : decode cX6_lookAtMounts 85 = .ok (.invokevirtual 46, 3) := by decide +kernel
theorem dX6_lookAtMounts_88 : decode cX6_lookAtMounts 88 = .ok (.istore 7, 2) := by decide +kernel
theorem dX6_lookAtMounts_90 : decode cX6_lookAtMounts 90 = .ok (.iload 7, 2) := by decide +kernel
theorem dX6_lookAtMounts_92 : decode cX6_lookAtMounts 92 = .ok (.ifCond .lt 6, 3) := by decide +kernel
theorem dX6_lookAtMounts_95 : decode cX6_lookAtMounts 95 = .ok (.iload 7, 2) := by decide +kernel
theorem dX6_lookAtMounts_97 : decode cX6_lookAtMounts 97 = .ok (.ireturn, 1) := by decide +kernel
theorem dX6_lookAtMounts_98 : decode cX6_lookAtMounts 98 = .ok (.iinc 6 1, 3) := by decide +kernel
theorem dX6_lookAtMounts_101 : decode cX6_lookAtMounts 101 = .ok (.goto (-80), 3) := by decide +kernel
theorem dX6_lookAtMounts_104 : decode cX6_lookAtMounts 104 = .ok (.bipush (-9), 2) := by decide +kernel
theorem dX6_lookAtMounts_106 : decode cX6_lookAtMounts 106 = .ok (.ireturn, 1) := by decide +kernel
theorem and2m {p : Nat → Bool} {w : Nat} (r : Nat) (hr : r < 10) : (mkn p 10 &&& w).testBit r = (p r && w.testBit r) := by rw [Nat.testBit_and, mkn_tb, decide_eq_true hr, Bool.true_and]
theorem lp_lookAtMounts {B : Bk} {K F : Nat → Nat} {L : List Nat} {w v n d j a dp : Nat} {q : Nd} {ms : List (Nat × Nat)} (hV : VB B) (hlk : LKP n d B K F L w v) (hd4 : 4 ≤ d) (hdp : n + (dp + 1) = 7) (hj : j < (nlG B 10).length) (hq : ng (nlG B 10) j = q) (ha : a ≤ L.length) (hms : ms.length ≤ q.1) (hq3 : q.1 < 3) : ∀ (m : Nat) (i : Nat) (D1 : Mem), i + m = 10 → WK_ D1 B K F L w v → TR D1 ms → X (d + 1) 138 j_X6_lookAtMounts 21 [some (.ref 79), some (.int (nI j)), some (.int (nI a)), some (.int (nI ms.length)), some (.int (nI dp)), some (.int (nI (mkn (MNf B q) 10 &&& w))), some (.int (nI i)), none] [] (138, P0, D1) (fun x σ => ∃ (u : Int32) (D' : Mem), x = [.int u] ∧ σ = wd D' ∧ WR D1 D' ms u (lkM (lk B w v L K F n) B w q a ms i m)) := by
  intro m
  induction m with
  | zero =>
    intro i D1 hi hk hT
    have hly : (lay 82).2 = 43 ∧ (lay 83).2 = 43 ∧ (lay 84).2 = 43 ∧ (lay 85).2 = 43 ∧ (lay 86).2 = 43 ∧ (lay 81).2 = 301 ∧ (lay 87).2 = 10 ∧ (lay 88).2 = 4 ∧ (lay 89).2 = 3 ∧ (lay 90).2 = 3 ∧ (lay 91).2 = 3 ∧ (lay 94).2 = 3 ∧ (lay 95).2 = 3 := by decide
    have hbw : mkn (MNf B q) 10 &&& w < 1024 := Nat.lt_of_le_of_lt Nat.and_le_left (mkn_lt _ 10)
    refine X_iload (nx := 23) dX6_lookAtMounts_21 rfl rfl ?_
    refine X_if_eq (tgt := 104) (nx := 26) dX6_lookAtMounts_23 rfl rfl (fun h23 => ?_) (fun h23 => ?_)
    · skip
      refine X_bipush (v := -9) (nx := 106) dX6_lookAtMounts_104 rfl rfl ?_
      exact Z_reti dX6_lookAtMounts_106 (Or.inl rfl) (WR.self hT)
    · skip
      refine X_iload (nx := 28) dX6_lookAtMounts_26 rfl rfl ?_
      refine X_bipush (v := nI 10) (nx := 30) dX6_lookAtMounts_28 rfl rfl ?_
      refine X_icmp_ge (tgt := 104) (nx := 33) dX6_lookAtMounts_30 rfl rfl (fun h30 => ?_) (fun h30 => ?_)
      · skip
        refine X_bipush (v := -9) (nx := 106) dX6_lookAtMounts_104 rfl rfl ?_
        exact Z_reti dX6_lookAtMounts_106 (Or.inl rfl) (WR.self hT)
      · exact absurd h30 (fun q => q (nI_le (by omega) (by omega)))
  | succ m ih =>
    intro i D1 hi hk hT
    have hly : (lay 82).2 = 43 ∧ (lay 83).2 = 43 ∧ (lay 84).2 = 43 ∧ (lay 85).2 = 43 ∧ (lay 86).2 = 43 ∧ (lay 81).2 = 301 ∧ (lay 87).2 = 10 ∧ (lay 88).2 = 4 ∧ (lay 89).2 = 3 ∧ (lay 90).2 = 3 ∧ (lay 91).2 = 3 ∧ (lay 94).2 = 3 ∧ (lay 95).2 = 3 := by decide
    have hbw : mkn (MNf B q) 10 &&& w < 1024 := Nat.lt_of_le_of_lt Nat.and_le_left (mkn_lt _ 10)
    refine X_iload (nx := 23) dX6_lookAtMounts_21 rfl rfl ?_
    refine X_if_eq (tgt := 104) (nx := 26) dX6_lookAtMounts_23 rfl rfl (fun h23 => ?_) (fun h23 => ?_)
    · skip
      rw [nI_0' (by omega)] at h23
      have hz : lkM (lk B w v L K F n) B w q a ms i (m + 1) = (none, 0) := lkM_0 _ _ (fun r h1 h2 => by have e := and2m (p := MNf B q) (w := w) r (by omega); rw [h23, Nat.zero_testBit] at e; exact e.symm)
      rw [hz]
      refine X_bipush (v := -9) (nx := 106) dX6_lookAtMounts_104 rfl rfl ?_
      exact Z_reti dX6_lookAtMounts_106 (Or.inl rfl) (WR.self hT)
    · skip
      refine X_iload (nx := 28) dX6_lookAtMounts_26 rfl rfl ?_
      refine X_bipush (v := nI 10) (nx := 30) dX6_lookAtMounts_28 rfl rfl ?_
      refine X_icmp_ge (tgt := 104) (nx := 33) dX6_lookAtMounts_30 rfl rfl (fun h30 => ?_) (fun h30 => ?_)
      · exact absurd h30 (nI_ge (by omega) (by omega))
      · skip
        refine X_iload (nx := 35) dX6_lookAtMounts_33 rfl rfl ?_
        refine X_iload (nx := 37) dX6_lookAtMounts_35 rfl rfl ?_
        refine Y_Si2 (nx := 40) dX6_lookAtMounts_37 rfl ml_RX6_121 kj_X7_has ks_X7_has (sp_X7_has (k := i) rfl (by omega) rfl (by omega)) (by first | decide | omega) (by exact Nat.le_of_ble_eq_true rfl) ?_
        refine X_if_eq (tgt := 98) (nx := 43) dX6_lookAtMounts_40 rfl rfl (fun h40 => ?_) (fun h40 => ?_)
        · skip
          rw [b2i_f, and2m i (by omega)] at h40
          have hz : lkM (lk B w v L K F n) B w q a ms i (m + 1) = lkM (lk B w v L K F n) B w q a ms (i + 1) m := if_neg (by rw [h40]; decide)
          rw [hz]
          refine X_iinc (nx := 101) dX6_lookAtMounts_98 rfl (by decide) rfl (by first | exact ii1 _ | rfl) rfl (st_s (st_s (st_s (st_s (st_s (st_s (st_0))))))) ?_
          refine X_goto (tgt := 21) dX6_lookAtMounts_101 rfl ?_
          first
            | exact ih (i + 1) D1 (by omega) hk hT
            | (refine X_fg8 ?_
               exact (ih (i + 1) D85 (by omega) (ho.wk hk) ho.2.2.2.1).mono (fun vs σ h => by obtain ⟨u, D2, e1, e2, e3⟩ := h; exact ⟨u, D2, e1, e2, ho.then e3⟩))
        · skip
          rw [b2i_t, and2m i (by omega)] at h40
          have hMN : MNf B q i = true := by simp only [Bool.and_eq_true] at h40; exact h40.1
          obtain ⟨hth, hmt, hro, m2, hmo, hmon, hlt, hm3⟩ := MNf_use hV hMN
          have hk3 : WK_ (up2 (up2 D1 94 ms.length (nI i)) 95 (ms.length + 1) (nI a)) B K F L w v := hk.kept (fun x _ _ _ => by rw [up2_other (by omega), up2_other (by omega)]) ((Fr.up (Or.inr (Or.inl rfl))).tr (Fr.up (Or.inr (Or.inr rfl))))
          have hm87 : up2 (up2 D1 94 ms.length (nI i)) 95 (ms.length + 1) (nI a) 87 i = nI (mon B i) := by rw [up2_other (by omega), up2_other (by omega), hk.1.2.2.2.2.1 i (by omega) (by show (thN B i && mtB B i) = true; rw [hth, hmt]; rfl), hmo, hmon]
          have hn3 := hk.1.2.1.1
          have hroot : ng (nlG B 10) (mon B i) = (mon B i, []) := hk.1.2.1.2.2.1 _ (by omega)
          have hz : lkM (lk B w v L K F n) B w q a ms i (m + 1) = (if (lk B w v L K F n (mon B i, []) a (ms ++ [(i, a)])).1.isSome = true then lk B w v L K F n (mon B i, []) a (ms ++ [(i, a)]) else addc (lk B w v L K F n (mon B i, []) a (ms ++ [(i, a)])).2 (lkM (lk B w v L K F n) B w q a ms (i + 1) m)) := if_pos h40
          rw [hz]
          refine X_aload_n (nx := 44) dX6_lookAtMounts_43 rfl rfl rfl ?_
          refine M_getP (nx := 47) dX6_lookAtMounts_44 rfl fl_RX6_25 rfl (by first | assumption | rfl | decide | omega) (by first | assumption | rfl | decide | omega) (by first | assumption | rfl | decide | omega) ?_
          refine X_iload_n (nx := 48) dX6_lookAtMounts_47 rfl rfl rfl ?_
          refine X_iload (nx := 50) dX6_lookAtMounts_48 rfl rfl ?_
          refine Y_Sv3 (nx := 53) dX6_lookAtMounts_50 rfl ml_RX6_124 kj_X7_put ks_X7_put (sp_X7_put (i := ms.length) (by decide) (by decide) rfl (by omega)) (by first | decide | omega) (by exact Nat.le_of_ble_eq_true rfl) ?_
          refine X_aload_n (nx := 54) dX6_lookAtMounts_53 rfl rfl rfl ?_
          refine M_getP (nx := 57) dX6_lookAtMounts_54 rfl fl_RX6_29 rfl (by first | assumption | rfl | decide | omega) (by first | assumption | rfl | decide | omega) (by first | assumption | rfl | decide | omega) ?_
          refine X_iload_n (nx := 58) dX6_lookAtMounts_57 rfl rfl rfl ?_
          refine X_iconst (v := 1) (nx := 59) dX6_lookAtMounts_58 rfl rfl ?_
          refine X_iadd (nx := 60) dX6_lookAtMounts_59 rfl ?_
          refine X_top (nI_1 _) ?_
          refine X_iload_n (nx := 61) dX6_lookAtMounts_60 rfl rfl rfl ?_
          refine Y_Sv3 (nx := 64) dX6_lookAtMounts_61 rfl ml_RX6_124 kj_X7_put ks_X7_put (sp_X7_put (i := ms.length + 1) (by decide) (by decide) rfl (by omega)) (by first | decide | omega) (by exact Nat.le_of_ble_eq_true rfl) ?_
          refine X_aload_n (nx := 65) dX6_lookAtMounts_64 rfl rfl rfl ?_
          refine X_aload_n (nx := 66) dX6_lookAtMounts_65 rfl rfl rfl ?_
          refine M_getP (nx := 69) dX6_lookAtMounts_66 rfl fl_RX6_12 rfl (by first | assumption | rfl | decide | omega) (by first | assumption | rfl | decide | omega) (by first | assumption | rfl | decide | omega) ?_
          refine M_getP (nx := 72) dX6_lookAtMounts_69 rfl fl_RX6_128 rfl (by first | assumption | rfl | decide | omega) (by first | assumption | rfl | decide | omega) (by first | assumption | rfl | decide | omega) ?_
          refine X_iload (nx := 74) dX6_lookAtMounts_72 rfl rfl ?_
          refine Y_Si2 (nx := 77) dX6_lookAtMounts_74 rfl ml_RX6_63 kj_X7_numberAt ks_X7_numberAt (sp_X7_numberAt (i := i) (by decide) (by decide) rfl (by omega)) (by first | decide | omega) (by exact Nat.le_of_ble_eq_true rfl) ?_
          refine X_top (hm87) ?_
          refine X_iload_n (nx := 78) dX6_lookAtMounts_77 rfl rfl rfl ?_
          refine X_iload_n (nx := 79) dX6_lookAtMounts_78 rfl rfl rfl ?_
          refine X_iconst (v := 1) (nx := 80) dX6_lookAtMounts_79 rfl rfl ?_
          refine X_iadd (nx := 81) dX6_lookAtMounts_80 rfl ?_
          refine X_top ((nI_1 _).trans (congrArg nI (show ms.length + 1 = (ms ++ [(i, a)]).length by simp))) ?_
          refine X_iload (nx := 83) dX6_lookAtMounts_81 rfl rfl ?_
          refine X_iconst (v := 1) (nx := 84) dX6_lookAtMounts_83 rfl rfl ?_
          refine X_iadd (nx := 85) dX6_lookAtMounts_84 rfl ?_
          refine X_top (nI_1 _) ?_
          refine Z_Vi4 (nx := 88) dX6_lookAtMounts_85 rfl ml_RX6_46 kj_X6_look kv_X6_look (hlk _ (mon B i) a (ms ++ [(i, a)]) (dp + 1) (mon B i, []) hdp hk3 (by omega) hroot ha (by simp; omega) (by rw [hmon]; omega) hT.add) (by first | assumption | rfl | decide | omega) (by first | assumption | rfl | decide | omega) (by decide) rfl (by first | decide | omega) (by exact Nat.le_of_ble_eq_true rfl) (fun u85 D85 g85 => ?_)
          refine X_istore (i := 7) (nx := 90) dX6_lookAtMounts_88 rfl (by decide) rfl (st_s (st_s (st_s (st_s (st_s (st_s (st_s (st_0)))))))) ?_
          refine X_iload (nx := 92) dX6_lookAtMounts_90 rfl rfl ?_
          refine X_if_lt (tgt := 98) (nx := 95) dX6_lookAtMounts_92 rfl rfl (fun h92 => ?_) (fun h92 => ?_)
          · skip
            have ho := g85.out
            have hnn := ho.lt.mp h92
            rw [if_neg (by rw [hnn]; decide)]
            refine X_iinc (nx := 101) dX6_lookAtMounts_98 rfl (by decide) rfl (by first | exact ii1 _ | rfl) rfl (st_s (st_s (st_s (st_s (st_s (st_s (st_0))))))) ?_
            refine X_goto (tgt := 21) dX6_lookAtMounts_101 rfl ?_
            first
              | exact ih (i + 1) D1 (by omega) hk hT
              | (refine X_fg8 ?_
                 exact (ih (i + 1) D85 (by omega) (ho.wk hk) ho.2.2.2.1).mono (fun vs σ h => by obtain ⟨u, D2, e1, e2, e3⟩ := h; exact ⟨u, D2, e1, e2, ho.then e3⟩))
          · skip
            have ho := g85.out
            rw [if_pos (ho.hit h92)]
            refine X_iload (nx := 97) dX6_lookAtMounts_95 rfl rfl ?_
            exact Z_reti dX6_lookAtMounts_97 (Or.inl rfl) ho
theorem sp_X6_lookAtMounts {B : Bk} {K F : Nat → Nat} {L : List Nat} {w v n d j a dp : Nat} {q : Nd} {ms : List (Nat × Nat)} (hV : VB B) (hlk : LKP n d B K F L w v) (hd4 : 4 ≤ d) (hdp : n + (dp + 1) = 7) (hj : j < (nlG B 10).length) (hq : ng (nlG B 10) j = q) (ha : a ≤ L.length) (hms : ms.length ≤ q.1) (hq3 : q.1 < 3) {D : Mem} (hk : WK_ D B K F L w v) (hT : TR D ms) : Rix (d + 1) j_X6_lookAtMounts [.ref 79, .int (nI j), .int (nI a), .int (nI ms.length), .int (nI dp)] D (fun u D' => WR D D' ms u (lkM (lk B w v L K F n) B w q a ms 0 10)) := by
  refine E.start 3 (ls := [some (.ref 79), some (.int (nI j)), some (.int (nI a)), some (.int (nI ms.length)), some (.int (nI dp)), none, none, none]) (by decide +kernel) (Nat.le_of_ble_eq_true rfl) rfl (Nat.le_refl _) (Nat.le_refl _) ?_
  have hn43 := hk.1.2.1.2.1
  have hly : (lay 82).2 = 43 ∧ (lay 83).2 = 43 ∧ (lay 84).2 = 43 ∧ (lay 85).2 = 43 ∧ (lay 86).2 = 43 ∧ (lay 81).2 = 301 ∧ (lay 87).2 = 10 ∧ (lay 88).2 = 4 ∧ (lay 89).2 = 3 ∧ (lay 90).2 = 3 ∧ (lay 91).2 = 3 ∧ (lay 94).2 = 3 ∧ (lay 95).2 = 3 := by decide
  obtain ⟨n1, n2, n3, n4, n5, n6⟩ := hk.1.2.2.1 j hj
  rw [hq] at n5
  refine X_aload_n (nx := 1) dX6_lookAtMounts_0 rfl rfl rfl ?_
  refine M_getP (nx := 4) dX6_lookAtMounts_1 rfl fl_RX6_12 rfl (by first | assumption | rfl | decide | omega) (by first | assumption | rfl | decide | omega) (by first | assumption | rfl | decide | omega) ?_
  refine M_getP (nx := 7) dX6_lookAtMounts_4 rfl fl_RX6_118 rfl (by first | assumption | rfl | decide | omega) (by first | assumption | rfl | decide | omega) (by first | assumption | rfl | decide | omega) ?_
  refine X_iload_n (nx := 8) dX6_lookAtMounts_7 rfl rfl rfl ?_
  refine Y_Si2 (nx := 11) dX6_lookAtMounts_8 rfl ml_RX6_63 kj_X7_numberAt ks_X7_numberAt (sp_X7_numberAt (i := j) (by decide) (by decide) rfl (by omega)) (by first | decide | omega) (by exact Nat.le_of_ble_eq_true rfl) ?_
  refine X_top (n5) ?_
  refine X_aload_n (nx := 12) dX6_lookAtMounts_11 rfl rfl rfl ?_
  refine M_getI (nx := 15) dX6_lookAtMounts_12 rfl fl_RX6_40 rfl (by first | assumption | rfl | decide | omega) (by first | assumption | rfl | decide | omega) ?_
  refine X_top (hk.2.2.2.1) ?_
  refine X_iand (nx := 16) dX6_lookAtMounts_15 rfl ?_
  refine X_top (nI_and _ _) ?_
  refine X_istore (i := 5) (nx := 18) dX6_lookAtMounts_16 rfl (by decide) rfl (st_s (st_s (st_s (st_s (st_s (st_0)))))) ?_
  refine X_iconst (v := 0) (nx := 19) dX6_lookAtMounts_18 rfl rfl ?_
  refine X_istore (i := 6) (nx := 21) dX6_lookAtMounts_19 rfl (by decide) rfl (st_s (st_s (st_s (st_s (st_s (st_s (st_0))))))) ?_
  exact lp_lookAtMounts hV hlk hd4 hdp hj hq ha hms hq3 10 0 D rfl hk hT
