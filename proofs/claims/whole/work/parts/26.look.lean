/-! LOOK -/
theorem WR.lt {D D' : Mem} {ms : List (Nat × Nat)} {u : Int32} {r : LR} (h : WR D D' ms u r) : (u < 0 ↔ r.1 = none) := by
  rw [h.1]
  cases hr : r.1 with
  | none => exact ⟨fun _ => rfl, fun _ => by decide⟩
  | some x =>
    obtain ⟨e, ml, t⟩ := x
    have := (h.2.2.1 e ml t hr).2.2.2.2
    exact ⟨fun q => absurd q (nI_neg (show e < 2147483648 by omega)), fun q => by cases q⟩
theorem WR.hit {D D' : Mem} {ms : List (Nat × Nat)} {u : Int32} {r : LR} (h : WR D D' ms u r) (hu : ¬ u < 0) : r.1.isSome = true := by
  cases hr : r.1 with
  | none => exact absurd (h.lt.mpr hr) hu
  | some x => rfl
theorem TR.sub {D : Mem} {ms : List (Nat × Nat)} {x : Nat × Nat} (h : TR D (ms ++ [x])) : TR D ms := by
  intro i hi
  have := h i (by simp; omega)
  rw [List.getD_eq_getElem?_getD, List.getElem?_append_left hi, ← List.getD_eq_getElem?_getD] at this
  exact this
theorem TR.add {D : Mem} {ms : List (Nat × Nat)} {i a : Nat} (h : TR D ms) : TR (up2 (up2 D 94 ms.length (nI i)) 95 (ms.length + 1) (nI a)) (ms ++ [(i, a)]) := by
  intro k hk
  simp at hk
  by_cases e : k < ms.length
  · rw [List.getD_eq_getElem?_getD, List.getElem?_append_left e, ← List.getD_eq_getElem?_getD]
    obtain ⟨h1, h2⟩ := h k e
    exact ⟨by rw [up2_other (by omega), up2_other (by omega)]; exact h1, by rw [up2_other (by omega), up2_other (by omega)]; exact h2⟩
  · have : k = ms.length := by omega
    subst this
    rw [List.getD_eq_getElem?_getD, List.getElem?_append_right (Nat.le_refl _)]
    simp only [Nat.sub_self, List.getElem?_cons_zero, Option.getD_some]
    exact ⟨by rw [up2_other (by omega)]; exact up2_same, up2_same⟩
/-- a look from a mount, seen from outside -/
theorem WR.out {D D' : Mem} {ms : List (Nat × Nat)} {u : Int32} {r : LR} {i a : Nat} (h : WR (up2 (up2 D 94 ms.length (nI i)) 95 (ms.length + 1) (nI a)) D' (ms ++ [(i, a)]) u r) : WR D D' ms u r := by
  obtain ⟨a1, a2, a3, a4, a5, a6, a7⟩ := h
  refine ⟨a1, a2.trans (by rw [up2_other (by omega), up2_other (by omega)]), a3, a4.sub, a5.trans (by rw [up2_other (by omega), up2_other (by omega)]), fun x h1 h2 h3 => (a6 x h1 h2 h3).trans (by rw [up2_other (by omega), up2_other (by omega)]), fun b hb => (a7 b hb).trans ?_⟩
  unfold inW at hb
  rw [up2_ne (by omega), up2_ne (by omega)]
theorem lkM_0 {LK : Nd → Nat → List (Nat × Nat) → LR} {B : Bk} {w : Nat} {q : Nd} {a : Nat} {ms : List (Nat × Nat)} : ∀ (n i : Nat), (∀ r, i ≤ r → r < i + n → (MNf B q r && w.testBit r) = false) → lkM LK B w q a ms i n = (none, 0) := by
  intro n
  induction n with
  | zero => intro i h; rfl
  | succ n ih =>
    intro i h
    unfold lkM
    rw [h i (by omega) (by omega), if_neg (by decide)]
    exact ih (i + 1) (fun r h1 h2 => h r (by omega) (by omega))
/-- what a look of n more levels is to do -/
def LKP (n d : Nat) (B : Bk) (K F : Nat → Nat) (L : List Nat) (w v : Nat) : Prop :=
  ∀ (D : Mem) (j a : Nat) (ms : List (Nat × Nat)) (dp : Nat) (q : Nd), n + dp = 7 → WK_ D B K F L w v → j < (nlG B 10).length → ng (nlG B 10) j = q → a ≤ L.length → ms.length ≤ q.1 → q.1 < 3 → TR D ms →
    Rix d j_X6_look [.ref 79, .int (nI j), .int (nI a), .int (nI ms.length), .int (nI dp)] D (fun u D' => WR D D' ms u (lk B w v L K F n q a ms))
theorem MNf_use {B : Bk} {q : Nd} {i : Nat} (hV : VB B) (h : MNf B q i = true) : thN B i = true ∧ mtB B i = true ∧ ro_ B i = q.1 ∧ ∃ m, mo_ B i = nI m ∧ mon B i = m ∧ q.1 < m ∧ m < 3 := by
  unfold MNf AT_ at h
  simp only [Bool.and_eq_true, decide_eq_true_eq] at h
  obtain ⟨⟨h1, h2, _⟩, h3⟩ := h
  have hc : i < cm_ B := by unfold thN at h1; simp only [Bool.and_eq_true, decide_eq_true_eq] at h1; exact h1.1
  obtain ⟨m, g1, g2, g3, _⟩ := (hV.2.2 i hc).mount h3
  refine ⟨h1, h3, h2, m, g1, ?_, by omega, g3⟩
  unfold mon
  rw [g1]
  exact nI_clamp (by omega)
theorem X_fg8 {d k pc : Nat} {j : MI} {a b c d0 e f g o : Option Value} {st : List Value} {σ : Wd} {Q : List Value → Wd → Prop} (hX : X d k j pc [a, b, c, d0, e, f, g, none] st σ Q) : X d k j pc [a, b, c, d0, e, f, g, o] st σ Q := by
  refine X_forget (fun i v h => ?_) hX
  match i, h with
  | 0, h => exact h
  | 1, h => exact h
  | 2, h => exact h
  | 3, h => exact h
  | 4, h => exact h
  | 5, h => exact h
  | 6, h => exact h
  | 7, h => cases h
  | n + 8, h => cases h
theorem X_fg12 {d k pc : Nat} {j : MI} {a b c d0 e f g h0 i0 o1 o2 o3 : Option Value} {st : List Value} {σ : Wd} {Q : List Value → Wd → Prop} (hX : X d k j pc [a, b, c, d0, e, f, g, h0, i0, none, none, none] st σ Q) : X d k j pc [a, b, c, d0, e, f, g, h0, i0, o1, o2, o3] st σ Q := by
  refine X_forget (fun i v h => ?_) hX
  match i, h with
  | 0, h => exact h
  | 1, h => exact h
  | 2, h => exact h
  | 3, h => exact h
  | 4, h => exact h
  | 5, h => exact h
  | 6, h => exact h
  | 7, h => exact h
  | 8, h => exact h
  | 9, h => cases h
  | 10, h => cases h
  | 11, h => cases h
  | n + 12, h => cases h
theorem dX6_lookAtMounts_0 : decode cX6_lookAtMounts 0 = .ok (.aload_n 0, 1) := by decide +kernel
theorem dX6_lookAtMounts_1 : decode cX6_lookAtMounts 1 = .ok (.getfield 12, 3) := by decide +kernel
theorem dX6_lookAtMounts_4 : decode cX6_lookAtMounts 4 = .ok (.getfield 108, 3) := by decide +kernel
theorem dX6_lookAtMounts_7 : decode cX6_lookAtMounts 7 = .ok (.iload_n 1, 1) := by decide +kernel
theorem dX6_lookAtMounts_8 : decode cX6_lookAtMounts 8 = .ok (.invokestatic 67, 3) := by decide +kernel
theorem dX6_lookAtMounts_11 : decode cX6_lookAtMounts 11 = .ok (.aload_n 0, 1) := by decide +kernel
theorem dX6_lookAtMounts_12 : decode cX6_lookAtMounts 12 = .ok (.getfield 44, 3) := by decide +kernel
theorem dX6_lookAtMounts_15 : decode cX6_lookAtMounts 15 = .ok (.iand, 1) := by decide +kernel
theorem dX6_lookAtMounts_16 : decode cX6_lookAtMounts 16 = .ok (.istore 5, 2) := by decide +kernel
theorem dX6_lookAtMounts_18 : decode cX6_lookAtMounts 18 = .ok (.iconst 0, 1) := by decide +kernel
theorem dX6_lookAtMounts_19 : decode cX6_lookAtMounts 19 = .ok (.istore 6, 2) := by decide +kernel
theorem dX6_lookAtMounts_21 : decode cX6_lookAtMounts 21 = .ok (.iload 5, 2) := by decide +kernel
theorem dX6_lookAtMounts_23 : decode cX6_lookAtMounts 23 = .ok (.ifCond .eq 81, 3) := by decide +kernel
theorem dX6_lookAtMounts_26 : decode cX6_lookAtMounts 26 = .ok (.iload 6, 2) := by decide +kernel
theorem dX6_lookAtMounts_28 : decode cX6_lookAtMounts 28 = .ok (.bipush 10, 2) := by decide +kernel
theorem dX6_lookAtMounts_30 : decode cX6_lookAtMounts 30 = .ok (.if_icmp .ge 74, 3) := by decide +kernel
theorem dX6_lookAtMounts_33 : decode cX6_lookAtMounts 33 = .ok (.iload 5, 2) := by decide +kernel
theorem dX6_lookAtMounts_35 : decode cX6_lookAtMounts 35 = .ok (.iload 6, 2) := by decide +kernel
theorem dX6_lookAtMounts_37 : decode cX6_lookAtMounts 37 = .ok (.invokestatic 111, 3) := by decide +kernel
theorem dX6_lookAtMounts_40 : decode cX6_lookAtMounts 40 = .ok (.ifCond .eq 58, 3) := by decide +kernel
theorem dX6_lookAtMounts_43 : decode cX6_lookAtMounts 43 = .ok (.aload_n 0, 1) := by decide +kernel
theorem dX6_lookAtMounts_44 : decode cX6_lookAtMounts 44 = .ok (.getfield 27, 3) := by decide +kernel
theorem dX6_lookAtMounts_47 : decode cX6_lookAtMounts 47 = .ok (.iload_n 3, 1) := by decide +kernel
theorem dX6_lookAtMounts_48 : decode cX6_lookAtMounts 48 = .ok (.iload 6, 2) := by decide +kernel
theorem dX6_lookAtMounts_50 : decode cX6_lookAtMounts 50 = .ok (.invokestatic 114, 3) := by decide +kernel
theorem dX6_lookAtMounts_53 : decode cX6_lookAtMounts 53 = .ok (.aload_n 0, 1) := by decide +kernel
theorem dX6_lookAtMounts_54 : decode cX6_lookAtMounts 54 = .ok (.getfield 31, 3) := by decide +kernel
theorem dX6_lookAtMounts_57 : decode cX6_lookAtMounts 57 = .ok (.iload_n 3, 1) := by decide +kernel
theorem dX6_lookAtMounts_58 : decode cX6_lookAtMounts 58 = .ok (.iconst 1, 1) := by decide +kernel
theorem dX6_lookAtMounts_59 : decode cX6_lookAtMounts 59 = .ok (.iadd, 1) := by decide +kernel
theorem dX6_lookAtMounts_60 : decode cX6_lookAtMounts 60 = .ok (.iload_n 2, 1) := by decide +kernel
theorem dX6_lookAtMounts_61 : decode cX6_lookAtMounts 61 = .ok (.invokestatic 114, 3) := by decide +kernel
theorem dX6_lookAtMounts_64 : decode cX6_lookAtMounts 64 = .ok (.aload_n 0, 1) := by decide +kernel
theorem dX6_lookAtMounts_65 : decode cX6_lookAtMounts 65 = .ok (.aload_n 0, 1) := by decide +kernel
theorem dX6_lookAtMounts_66 : decode cX6_lookAtMounts 66 = .ok (.getfield 12, 3) := by decide +kernel
theorem dX6_lookAtMounts_69 : decode cX6_lookAtMounts 69 = .ok (.getfield 118, 3) := by decide +kernel
theorem dX6_lookAtMounts_72 : decode cX6_lookAtMounts 72 = .ok (.iload 6, 2) := by decide +kernel
theorem dX6_lookAtMounts_74 : decode cX6_lookAtMounts 74 = .ok (.invokestatic 67, 3) := by decide +kernel
theorem dX6_lookAtMounts_77 : decode cX6_lookAtMounts 77 = .ok (.iload_n 2, 1) := by decide +kernel
theorem dX6_lookAtMounts_78 : decode cX6_lookAtMounts 78 = .ok (.iload_n 3, 1) := by decide +kernel
theorem dX6_lookAtMounts_79 : decode cX6_lookAtMounts 79 = .ok (.iconst 1, 1) := by decide +kernel
theorem dX6_lookAtMounts_80 : decode cX6_lookAtMounts 80 = .ok (.iadd, 1) := by decide +kernel
theorem dX6_lookAtMounts_81 : decode cX6_lookAtMounts 81 = .ok (.iload 4, 2) := by decide +kernel
theorem dX6_lookAtMounts_83 : decode cX6_lookAtMounts 83 = .ok (.iconst 1, 1) := by decide +kernel
theorem dX6_lookAtMounts_84 : decode cX6_lookAtMounts 84 = .ok (.iadd, 1) := by decide +kernel
theorem dX6_lookAtMounts_85 : decode cX6_lookAtMounts 85 = .ok (.invokevirtual 50, 3) := by decide +kernel
theorem dX6_lookAtMounts_88 : decode cX6_lookAtMounts 88 = .ok (.istore 7, 2) := by decide +kernel
theorem dX6_lookAtMounts_90 : decode cX6_lookAtMounts 90 = .ok (.iload 7, 2) := by decide +kernel
theorem dX6_lookAtMounts_92 : decode cX6_lookAtMounts 92 = .ok (.ifCond .lt 6, 3) := by decide +kernel
theorem dX6_lookAtMounts_95 : decode cX6_lookAtMounts 95 = .ok (.iload 7, 2) := by decide +kernel
theorem dX6_lookAtMounts_97 : decode cX6_lookAtMounts 97 = .ok (.ireturn, 1) := by decide +kernel
theorem dX6_lookAtMounts_98 : decode cX6_lookAtMounts 98 = .ok (.iinc 6 1, 3) := by decide +kernel
theorem dX6_lookAtMounts_101 : decode cX6_lookAtMounts 101 = .ok (.goto (-80), 3) := by decide +kernel
theorem dX6_lookAtMounts_104 : decode cX6_lookAtMounts 104 = .ok (.bipush (-9), 2) := by decide +kernel
theorem dX6_lookAtMounts_106 : decode cX6_lookAtMounts 106 = .ok (.ireturn, 1) := by decide +kernel
theorem and2m {p : Nat → Bool} {w : Nat} (r : Nat) (hr : r < 10) : (mkn p 10 &&& w).testBit r = (p r && w.testBit r) := by rw [Nat.testBit_and, mkn_tb, decide_eq_true hr, Bool.true_and]
theorem lp_lookAtMounts {B : Bk} {K F : Nat → Nat} {L : List Nat} {w v n d j a dp : Nat} {q : Nd} {ms : List (Nat × Nat)} (hV : VB B) (hlk : LKP n d B K F L w v) (hd4 : 4 ≤ d) (hdp : n + (dp + 1) = 7) (hj : j < (nlG B 10).length) (hq : ng (nlG B 10) j = q) (ha : a ≤ L.length) (hms : ms.length ≤ q.1) (hq3 : q.1 < 3) : ∀ (m : Nat) (i : Nat) (D1 : Mem), i + m = 10 → WK_ D1 B K F L w v → TR D1 ms → X (d + 1) 138 j_X6_lookAtMounts 21 [some (.ref 79), some (.int (nI j)), some (.int (nI a)), some (.int (nI ms.length)), some (.int (nI dp)), some (.int (nI (mkn (MNf B q) 10 &&& w))), some (.int (nI i)), none] [] (138, P0, D1) (fun x σ => ∃ (u : Int32) (D' : Mem), x = [.int u] ∧ σ = wd D' ∧ WR D1 D' ms u (lkM (lk B w v L K F n) B w q a ms i m)) := by
  intro m
  induction m with
  | zero =>
    intro i D1 hi hk hT
    have hly : (lay 82).2 = 43 ∧ (lay 83).2 = 43 ∧ (lay 84).2 = 43 ∧ (lay 85).2 = 43 ∧ (lay 86).2 = 43 ∧ (lay 81).2 = 301 ∧ (lay 87).2 = 10 ∧ (lay 88).2 = 4 ∧ (lay 89).2 = 3 ∧ (lay 90).2 = 3 ∧ (lay 91).2 = 3 ∧ (lay 94).2 = 3 ∧ (lay 95).2 = 3 := by decide
    have hbw : mkn (MNf B q) 10 &&& w < 1024 := Nat.lt_of_le_of_lt Nat.and_le_left (mkn_lt _ 10)
    refine X_iload (nx := 23) dX6_lookAtMounts_21 rfl rfl ?_
    refine X_if_eq (tgt := 104) (nx := 26) dX6_lookAtMounts_23 rfl rfl (fun h23 => ?_) (fun h23 => ?_)
    · skip
      refine X_bipush (v := -9) (nx := 106) dX6_lookAtMounts_104 rfl rfl ?_
      exact Z_reti dX6_lookAtMounts_106 (Or.inl rfl) (WR.self hT)
    · skip
      refine X_iload (nx := 28) dX6_lookAtMounts_26 rfl rfl ?_
      refine X_bipush (v := nI 10) (nx := 30) dX6_lookAtMounts_28 rfl rfl ?_
      refine X_icmp_ge (tgt := 104) (nx := 33) dX6_lookAtMounts_30 rfl rfl (fun h30 => ?_) (fun h30 => ?_)
      · skip
        refine X_bipush (v := -9) (nx := 106) dX6_lookAtMounts_104 rfl rfl ?_
        exact Z_reti dX6_lookAtMounts_106 (Or.inl rfl) (WR.self hT)
      · exact absurd h30 (fun q => q (nI_le (by omega) (by omega)))
  | succ m ih =>
    intro i D1 hi hk hT
    have hly : (lay 82).2 = 43 ∧ (lay 83).2 = 43 ∧ (lay 84).2 = 43 ∧ (lay 85).2 = 43 ∧ (lay 86).2 = 43 ∧ (lay 81).2 = 301 ∧ (lay 87).2 = 10 ∧ (lay 88).2 = 4 ∧ (lay 89).2 = 3 ∧ (lay 90).2 = 3 ∧ (lay 91).2 = 3 ∧ (lay 94).2 = 3 ∧ (lay 95).2 = 3 := by decide
    have hbw : mkn (MNf B q) 10 &&& w < 1024 := Nat.lt_of_le_of_lt Nat.and_le_left (mkn_lt _ 10)
    refine X_iload (nx := 23) dX6_lookAtMounts_21 rfl rfl ?_
    refine X_if_eq (tgt := 104) (nx := 26) dX6_lookAtMounts_23 rfl rfl (fun h23 => ?_) (fun h23 => ?_)
    · skip
      rw [nI_0' (by omega)] at h23
      have hz : lkM (lk B w v L K F n) B w q a ms i (m + 1) = (none, 0) := lkM_0 _ _ (fun r h1 h2 => by have e := and2m (p := MNf B q) (w := w) r (by omega); rw [h23, Nat.zero_testBit] at e; exact e.symm)
      rw [hz]
      refine X_bipush (v := -9) (nx := 106) dX6_lookAtMounts_104 rfl rfl ?_
      exact Z_reti dX6_lookAtMounts_106 (Or.inl rfl) (WR.self hT)
    · skip
      refine X_iload (nx := 28) dX6_lookAtMounts_26 rfl rfl ?_
      refine X_bipush (v := nI 10) (nx := 30) dX6_lookAtMounts_28 rfl rfl ?_
      refine X_icmp_ge (tgt := 104) (nx := 33) dX6_lookAtMounts_30 rfl rfl (fun h30 => ?_) (fun h30 => ?_)
      · exact absurd h30 (nI_ge (by omega) (by omega))
      · skip
        refine X_iload (nx := 35) dX6_lookAtMounts_33 rfl rfl ?_
        refine X_iload (nx := 37) dX6_lookAtMounts_35 rfl rfl ?_
        refine Y_Si2 (nx := 40) dX6_lookAtMounts_37 rfl ml_RX6_111 kj_X7_has ks_X7_has (sp_X7_has (k := i) rfl (by omega) rfl (by omega)) (by first | decide | omega) (by exact Nat.le_of_ble_eq_true rfl) ?_
        refine X_if_eq (tgt := 98) (nx := 43) dX6_lookAtMounts_40 rfl rfl (fun h40 => ?_) (fun h40 => ?_)
        · skip
          rw [b2i_f, and2m i (by omega)] at h40
          have hz : lkM (lk B w v L K F n) B w q a ms i (m + 1) = lkM (lk B w v L K F n) B w q a ms (i + 1) m := if_neg (by rw [h40]; decide)
          rw [hz]
          refine X_iinc (nx := 101) dX6_lookAtMounts_98 rfl (by decide) rfl (by first | exact ii1 _ | rfl) rfl (st_s (st_s (st_s (st_s (st_s (st_s (st_0))))))) ?_
          refine X_goto (tgt := 21) dX6_lookAtMounts_101 rfl ?_
          first
            | exact ih (i + 1) D1 (by omega) hk hT
            | (refine X_fg8 ?_
               exact (ih (i + 1) D85 (by omega) (ho.wk hk) ho.2.2.2.1).mono (fun vs σ h => by obtain ⟨u, D2, e1, e2, e3⟩ := h; exact ⟨u, D2, e1, e2, ho.then e3⟩))
        · skip
          rw [b2i_t, and2m i (by omega)] at h40
          have hMN : MNf B q i = true := by simp only [Bool.and_eq_true] at h40; exact h40.1
          obtain ⟨hth, hmt, hro, m2, hmo, hmon, hlt, hm3⟩ := MNf_use hV hMN
          have hk3 : WK_ (up2 (up2 D1 94 ms.length (nI i)) 95 (ms.length + 1) (nI a)) B K F L w v := hk.kept (fun x _ _ _ => by rw [up2_other (by omega), up2_other (by omega)]) ((Fr.up (Or.inr (Or.inl rfl))).tr (Fr.up (Or.inr (Or.inr rfl))))
          have hm87 : up2 (up2 D1 94 ms.length (nI i)) 95 (ms.length + 1) (nI a) 87 i = nI (mon B i) := by rw [up2_other (by omega), up2_other (by omega), hk.1.2.2.2.2.1 i (by omega) (by show (thN B i && mtB B i) = true; rw [hth, hmt]; rfl), hmo, hmon]
          have hn3 := hk.1.2.1.1
          have hroot : ng (nlG B 10) (mon B i) = (mon B i, []) := hk.1.2.1.2.2.1 _ (by omega)
          have hz : lkM (lk B w v L K F n) B w q a ms i (m + 1) = (if (lk B w v L K F n (mon B i, []) a (ms ++ [(i, a)])).1.isSome = true then lk B w v L K F n (mon B i, []) a (ms ++ [(i, a)]) else addc (lk B w v L K F n (mon B i, []) a (ms ++ [(i, a)])).2 (lkM (lk B w v L K F n) B w q a ms (i + 1) m)) := if_pos h40
          rw [hz]
          refine X_aload_n (nx := 44) dX6_lookAtMounts_43 rfl rfl rfl ?_
          refine M_getP (nx := 47) dX6_lookAtMounts_44 rfl fl_RX6_27 rfl (by first | assumption | rfl | decide | omega) (by first | assumption | rfl | decide | omega) (by first | assumption | rfl | decide | omega) ?_
          refine X_iload_n (nx := 48) dX6_lookAtMounts_47 rfl rfl rfl ?_
          refine X_iload (nx := 50) dX6_lookAtMounts_48 rfl rfl ?_
          refine Y_Sv3 (nx := 53) dX6_lookAtMounts_50 rfl ml_RX6_114 kj_X7_put ks_X7_put (sp_X7_put (i := ms.length) (by decide) (by decide) rfl (by omega)) (by first | decide | omega) (by exact Nat.le_of_ble_eq_true rfl) ?_
          refine X_aload_n (nx := 54) dX6_lookAtMounts_53 rfl rfl rfl ?_
          refine M_getP (nx := 57) dX6_lookAtMounts_54 rfl fl_RX6_31 rfl (by first | assumption | rfl | decide | omega) (by first | assumption | rfl | decide | omega) (by first | assumption | rfl | decide | omega) ?_
          refine X_iload_n (nx := 58) dX6_lookAtMounts_57 rfl rfl rfl ?_
          refine X_iconst (v := 1) (nx := 59) dX6_lookAtMounts_58 rfl rfl ?_
          refine X_iadd (nx := 60) dX6_lookAtMounts_59 rfl ?_
          refine X_top (nI_1 _) ?_
          refine X_iload_n (nx := 61) dX6_lookAtMounts_60 rfl rfl rfl ?_
          refine Y_Sv3 (nx := 64) dX6_lookAtMounts_61 rfl ml_RX6_114 kj_X7_put ks_X7_put (sp_X7_put (i := ms.length + 1) (by decide) (by decide) rfl (by omega)) (by first | decide | omega) (by exact Nat.le_of_ble_eq_true rfl) ?_
          refine X_aload_n (nx := 65) dX6_lookAtMounts_64 rfl rfl rfl ?_
          refine X_aload_n (nx := 66) dX6_lookAtMounts_65 rfl rfl rfl ?_
          refine M_getP (nx := 69) dX6_lookAtMounts_66 rfl fl_RX6_12 rfl (by first | assumption | rfl | decide | omega) (by first | assumption | rfl | decide | omega) (by first | assumption | rfl | decide | omega) ?_
          refine M_getP (nx := 72) dX6_lookAtMounts_69 rfl fl_RX6_118 rfl (by first | assumption | rfl | decide | omega) (by first | assumption | rfl | decide | omega) (by first | assumption | rfl | decide | omega) ?_
          refine X_iload (nx := 74) dX6_lookAtMounts_72 rfl rfl ?_
          refine Y_Si2 (nx := 77) dX6_lookAtMounts_74 rfl ml_RX6_67 kj_X7_numberAt ks_X7_numberAt (sp_X7_numberAt (i := i) (by decide) (by decide) rfl (by omega)) (by first | decide | omega) (by exact Nat.le_of_ble_eq_true rfl) ?_
          refine X_top (hm87) ?_
          refine X_iload_n (nx := 78) dX6_lookAtMounts_77 rfl rfl rfl ?_
          refine X_iload_n (nx := 79) dX6_lookAtMounts_78 rfl rfl rfl ?_
          refine X_iconst (v := 1) (nx := 80) dX6_lookAtMounts_79 rfl rfl ?_
          refine X_iadd (nx := 81) dX6_lookAtMounts_80 rfl ?_
          refine X_top ((nI_1 _).trans (congrArg nI (show ms.length + 1 = (ms ++ [(i, a)]).length by simp))) ?_
          refine X_iload (nx := 83) dX6_lookAtMounts_81 rfl rfl ?_
          refine X_iconst (v := 1) (nx := 84) dX6_lookAtMounts_83 rfl rfl ?_
          refine X_iadd (nx := 85) dX6_lookAtMounts_84 rfl ?_
          refine X_top (nI_1 _) ?_
          refine Z_Vi4 (nx := 88) dX6_lookAtMounts_85 rfl ml_RX6_50 kj_X6_look kv_X6_look (hlk _ (mon B i) a (ms ++ [(i, a)]) (dp + 1) (mon B i, []) hdp hk3 (by omega) hroot ha (by simp; omega) (by rw [hmon]; omega) hT.add) (by first | assumption | rfl | decide | omega) (by first | assumption | rfl | decide | omega) (by decide) rfl (by first | decide | omega) (by exact Nat.le_of_ble_eq_true rfl) (fun u85 D85 g85 => ?_)
          refine X_istore (i := 7) (nx := 90) dX6_lookAtMounts_88 rfl (by decide) rfl (st_s (st_s (st_s (st_s (st_s (st_s (st_s (st_0)))))))) ?_
          refine X_iload (nx := 92) dX6_lookAtMounts_90 rfl rfl ?_
          refine X_if_lt (tgt := 98) (nx := 95) dX6_lookAtMounts_92 rfl rfl (fun h92 => ?_) (fun h92 => ?_)
          · skip
            have ho := g85.out
            have hnn := ho.lt.mp h92
            rw [if_neg (by rw [hnn]; decide)]
            refine X_iinc (nx := 101) dX6_lookAtMounts_98 rfl (by decide) rfl (by first | exact ii1 _ | rfl) rfl (st_s (st_s (st_s (st_s (st_s (st_s (st_0))))))) ?_
            refine X_goto (tgt := 21) dX6_lookAtMounts_101 rfl ?_
            first
              | exact ih (i + 1) D1 (by omega) hk hT
              | (refine X_fg8 ?_
                 exact (ih (i + 1) D85 (by omega) (ho.wk hk) ho.2.2.2.1).mono (fun vs σ h => by obtain ⟨u, D2, e1, e2, e3⟩ := h; exact ⟨u, D2, e1, e2, ho.then e3⟩))
          · skip
            have ho := g85.out
            rw [if_pos (ho.hit h92)]
            refine X_iload (nx := 97) dX6_lookAtMounts_95 rfl rfl ?_
            exact Z_reti dX6_lookAtMounts_97 (Or.inl rfl) ho
theorem sp_X6_lookAtMounts {B : Bk} {K F : Nat → Nat} {L : List Nat} {w v n d j a dp : Nat} {q : Nd} {ms : List (Nat × Nat)} (hV : VB B) (hlk : LKP n d B K F L w v) (hd4 : 4 ≤ d) (hdp : n + (dp + 1) = 7) (hj : j < (nlG B 10).length) (hq : ng (nlG B 10) j = q) (ha : a ≤ L.length) (hms : ms.length ≤ q.1) (hq3 : q.1 < 3) {D : Mem} (hk : WK_ D B K F L w v) (hT : TR D ms) : Rix (d + 1) j_X6_lookAtMounts [.ref 79, .int (nI j), .int (nI a), .int (nI ms.length), .int (nI dp)] D (fun u D' => WR D D' ms u (lkM (lk B w v L K F n) B w q a ms 0 10)) := by
  refine E.start 3 (ls := [some (.ref 79), some (.int (nI j)), some (.int (nI a)), some (.int (nI ms.length)), some (.int (nI dp)), none, none, none]) (by decide +kernel) (Nat.le_of_ble_eq_true rfl) rfl (Nat.le_refl _) (Nat.le_refl _) ?_
  have hn43 := hk.1.2.1.2.1
  have hly : (lay 82).2 = 43 ∧ (lay 83).2 = 43 ∧ (lay 84).2 = 43 ∧ (lay 85).2 = 43 ∧ (lay 86).2 = 43 ∧ (lay 81).2 = 301 ∧ (lay 87).2 = 10 ∧ (lay 88).2 = 4 ∧ (lay 89).2 = 3 ∧ (lay 90).2 = 3 ∧ (lay 91).2 = 3 ∧ (lay 94).2 = 3 ∧ (lay 95).2 = 3 := by decide
  obtain ⟨n1, n2, n3, n4, n5, n6⟩ := hk.1.2.2.1 j hj
  rw [hq] at n5
  refine X_aload_n (nx := 1) dX6_lookAtMounts_0 rfl rfl rfl ?_
  refine M_getP (nx := 4) dX6_lookAtMounts_1 rfl fl_RX6_12 rfl (by first | assumption | rfl | decide | omega) (by first | assumption | rfl | decide | omega) (by first | assumption | rfl | decide | omega) ?_
  refine M_getP (nx := 7) dX6_lookAtMounts_4 rfl fl_RX6_108 rfl (by first | assumption | rfl | decide | omega) (by first | assumption | rfl | decide | omega) (by first | assumption | rfl | decide | omega) ?_
  refine X_iload_n (nx := 8) dX6_lookAtMounts_7 rfl rfl rfl ?_
  refine Y_Si2 (nx := 11) dX6_lookAtMounts_8 rfl ml_RX6_67 kj_X7_numberAt ks_X7_numberAt (sp_X7_numberAt (i := j) (by decide) (by decide) rfl (by omega)) (by first | decide | omega) (by exact Nat.le_of_ble_eq_true rfl) ?_
  refine X_top (n5) ?_
  refine X_aload_n (nx := 12) dX6_lookAtMounts_11 rfl rfl rfl ?_
  refine M_getI (nx := 15) dX6_lookAtMounts_12 rfl fl_RX6_44 rfl (by first | assumption | rfl | decide | omega) (by first | assumption | rfl | decide | omega) ?_
  refine X_top (hk.2.2.2.1) ?_
  refine X_iand (nx := 16) dX6_lookAtMounts_15 rfl ?_
  refine X_top (nI_and _ _) ?_
  refine X_istore (i := 5) (nx := 18) dX6_lookAtMounts_16 rfl (by decide) rfl (st_s (st_s (st_s (st_s (st_s (st_0)))))) ?_
  refine X_iconst (v := 0) (nx := 19) dX6_lookAtMounts_18 rfl rfl ?_
  refine X_istore (i := 6) (nx := 21) dX6_lookAtMounts_19 rfl (by decide) rfl (st_s (st_s (st_s (st_s (st_s (st_s (st_0))))))) ?_
  exact lp_lookAtMounts hV hlk hd4 hdp hj hq ha hms hq3 10 0 D rfl hk hT
theorem WR.seen {D : Mem} {ms : List (Nat × Nat)} (h : TR D ms) : WR D (up2 D 79 6 (D 79 6 + 1)) ms (-9) (none, 1) :=
  ⟨rfl, up2_same, fun _ _ _ q => (by cases q), fun i hi => ⟨(up2_other (by omega)).trans (h i hi).1, (up2_other (by omega)).trans (h i hi).2⟩, up2_other (by omega), fun x h1 _ _ => up2_other (by omega), Fr.up (Or.inl rfl)⟩
/-- a step 32 does nothing -/
theorem lkS_32 {LK : Nd → Nat → List (Nat × Nat) → LR} {B : Bk} {w v a : Nat} {L : List Nat} {st : Bool} {q : Nd} {ms : List (Nat × Nat)} (l : List Nat) : lkS LK B w v L st q a ms (l ++ [32]) = lkS LK B w v L st q a ms l := by
  induction l with
  | nil =>
    have h1 : nxq B w L 32 a q = none := by unfold nxq; split <;> rfl
    have h2 : ebF (RSf B) (ENf B) (SVf B) q w v L 32 a = none := fst_intro_none fun r _ _ => by rw [if_neg (by decide), if_neg (fun h => absurd h.1 (by decide))]; rfl
    rw [List.nil_append, lkS.eq_2, h1]
    dsimp only
    rw [if_neg (by decide), h2]
    all_goals rfl
  | cons s r ih =>
    show lkS LK B w v L st q a ms (s :: (r ++ [32])) = _
    simp only [lkS]
    rw [ih]
theorem lk7 {LK : Nd → Nat → List (Nat × Nat) → LR} {B : Bk} {w v a k : Nat} {L : List Nat} {st : Bool} {q : Nd} {ms : List (Nat × Nat)} (hk : k < 6) : lkS LK B w v L st q a ms (ord7 k) = lkS LK B w v L st q a ms (ordS (oi k)) := by
  rcases (ord7_o k hk).1 with h | h
  · rw [h]
  · rw [h, lkS_32]
/-- how a step of an order ends -/
def LKc (D1 D2 : Mem) (ms : List (Nat × Nat)) (u : Int32) (r rest : LR) : Prop := (¬ u < 0 → WR D1 D2 ms u r) ∧ (u < 0 → ∃ rr, WR D1 D2 ms u rr ∧ r = addc rr.2 rest)
section LC
variable {LK : Nd → Nat → List (Nat × Nat) → LR} {B : Bk} {w v s a : Nat} {L : List Nat} {st : Bool} {q q' : Nd} {ms : List (Nat × Nat)} {r : List Nat} {D1 D2 : Mem} {u : Int32}
theorem lkc_1 (hx : nxq B w L s a q = some q') (h : WR D1 D2 ms u (LK q' (a + 1) ms)) (hs : ¬ u < 0 ∨ st = false) : LKc D1 D2 ms u (lkS LK B w v L st q a ms (s :: r)) (lkS LK B w v L st q a ms r) := by
  have e : lkS LK B w v L st q a ms (s :: r) = if (LK q' (a + 1) ms).1.isSome = true then LK q' (a + 1) ms else if st = true then (none, (LK q' (a + 1) ms).2) else addc (LK q' (a + 1) ms).2 (lkS LK B w v L st q a ms r) := by rw [lkS, hx]
  refine ⟨fun hu => ?_, fun hu => ⟨_, h, ?_⟩⟩
  · rw [e, if_pos (h.hit hu)]; exact h
  · rw [e, if_neg (by rw [h.lt.mp hu]; decide), if_neg (by rcases hs with hs | hs; exact absurd hu hs; rw [hs]; decide)]
theorem lkc_s (hx : nxq B w L s a q = some q') (h : WR D1 D2 ms u (LK q' (a + 1) ms)) (hu : u < 0) (hs : st = true) : lkS LK B w v L st q a ms (s :: r) = (none, (LK q' (a + 1) ms).2) := by
  have e : lkS LK B w v L st q a ms (s :: r) = if (LK q' (a + 1) ms).1.isSome = true then LK q' (a + 1) ms else if st = true then (none, (LK q' (a + 1) ms).2) else addc (LK q' (a + 1) ms).2 (lkS LK B w v L st q a ms r) := by rw [lkS, hx]
  rw [e, if_neg (by rw [h.lt.mp hu]; decide), if_pos hs]
theorem lkc_2 (hx : nxq B w L s a q = none) (h7 : s = 77) (h : WR D1 D2 ms u (lkM LK B w q a ms 0 10)) : LKc D1 D2 ms u (lkS LK B w v L st q a ms (s :: r)) (lkS LK B w v L st q a ms r) := by
  have e : lkS LK B w v L st q a ms (s :: r) = if (lkM LK B w q a ms 0 10).1.isSome = true then lkM LK B w q a ms 0 10 else addc (lkM LK B w q a ms 0 10).2 (lkS LK B w v L st q a ms r) := by rw [lkS, hx]; exact if_pos h7
  refine ⟨fun hu => ?_, fun hu => ⟨_, h, ?_⟩⟩
  · rw [e, if_pos (h.hit hu)]; exact h
  · rw [e, if_neg (by rw [h.lt.mp hu]; decide)]
theorem lkc_3 (hx : nxq B w L s a q = none) (h7 : ¬ s = 77) (hT : TR D1 ms) (hm : ms.length ≤ 2) : LKc D1 (ebD D1 (ebF (RSf B) (ENf B) (SVf B) q w v L s a) ms.length (L.length - a)) ms (opI (ebF (RSf B) (ENf B) (SVf B) q w v L s a)) (lkS LK B w v L st q a ms (s :: r)) (lkS LK B w v L st q a ms r) := by
  have e : lkS LK B w v L st q a ms (s :: r) = match ebF (RSf B) (ENf B) (SVf B) q w v L s a with
        | some e => (some (e, ms, L.length - a), 0)
        | none => lkS LK B w v L st q a ms r := by rw [lkS, hx]; exact if_neg h7
  cases he : ebF (RSf B) (ENf B) (SVf B) q w v L s a with
  | none =>
    rw [he] at e
    exact ⟨fun hu => absurd (by decide) hu, fun _ => ⟨(none, 0), WR.self hT, by rw [e]; unfold addc; simp only [Nat.zero_add]⟩⟩
  | some k =>
    rw [he] at e
    have hk : k < 10 := (fst_some he).2.1
    refine ⟨fun hu => ?_, fun hu => absurd hu (nI_neg (by omega))⟩
    rw [e]
    refine ⟨rfl, ?_, fun e ml t h => ?_, ?_, ?_, fun x h1 h2 h3 => ?_, ?_⟩
    · show up2 _ _ _ _ _ _ = _
      rw [up2_other (by omega), up2_other (by omega)]; exact (Int32.add_zero _).symm
    · cases h
      refine ⟨?_, up2_same, fun i hi => ⟨?_, ?_⟩, hm, hk⟩
      · show up2 _ _ _ _ _ _ = _
        rw [up2_other (by omega)]; exact up2_same
      · show up2 _ _ _ _ _ _ = _
        rw [up2_other (by omega), up2_other (by omega)]; exact (hT i hi).1
      · show up2 _ _ _ _ _ _ = _
        rw [up2_other (by omega), up2_other (by omega)]; exact (hT i hi).2
    · intro i hi
      refine ⟨?_, ?_⟩
      · show up2 _ _ _ _ _ _ = _
        rw [up2_other (by omega), up2_other (by omega)]; exact (hT i hi).1
      · show up2 _ _ _ _ _ _ = _
        rw [up2_other (by omega), up2_other (by omega)]; exact (hT i hi).2
    · show up2 _ _ _ _ _ _ = _
      rw [up2_other (by omega), up2_other (by omega)]
    · show up2 _ _ _ _ _ _ = _
      rw [up2_other (by omega), up2_other (by omega)]
    · exact (Fr.up (Or.inl rfl)).tr (Fr.up (Or.inl rfl))
end LC
theorem dX6_look_0 : decode cX6_look 0 = .ok (.iload 4, 2) := by decide +kernel
theorem dX6_look_2 : decode cX6_look 2 = .ok (.bipush 6, 2) := by decide +kernel
theorem dX6_look_4 : decode cX6_look 4 = .ok (.if_icmp .le 6, 3) := by decide +kernel
theorem dX6_look_7 : decode cX6_look 7 = .ok (.bipush (-9), 2) := by decide +kernel
theorem dX6_look_9 : decode cX6_look 9 = .ok (.ireturn, 1) := by decide +kernel
theorem dX6_look_10 : decode cX6_look 10 = .ok (.aload_n 0, 1) := by decide +kernel
theorem dX6_look_11 : decode cX6_look 11 = .ok (.dup, 1) := by decide +kernel
theorem dX6_look_12 : decode cX6_look 12 = .ok (.getfield 47, 3) := by decide +kernel
theorem dX6_look_15 : decode cX6_look 15 = .ok (.iconst 1, 1) := by decide +kernel
theorem dX6_look_16 : decode cX6_look 16 = .ok (.iadd, 1) := by decide +kernel
theorem dX6_look_17 : decode cX6_look 17 = .ok (.putfield 47, 3) := by decide +kernel
theorem dX6_look_20 : decode cX6_look 20 = .ok (.aload_n 0, 1) := by decide +kernel
theorem dX6_look_21 : decode cX6_look 21 = .ok (.getfield 12, 3) := by decide +kernel
theorem dX6_look_24 : decode cX6_look 24 = .ok (.getfield 64, 3) := by decide +kernel
theorem dX6_look_27 : decode cX6_look 27 = .ok (.iload_n 1, 1) := by decide +kernel
theorem dX6_look_28 : decode cX6_look 28 = .ok (.invokestatic 67, 3) := by decide +kernel
theorem dX6_look_31 : decode cX6_look 31 = .ok (.istore 5, 2) := by decide +kernel
theorem dX6_look_33 : decode cX6_look 33 = .ok (.aload_n 0, 1) := by decide +kernel
theorem dX6_look_34 : decode cX6_look 34 = .ok (.getfield 12, 3) := by decide +kernel
theorem dX6_look_37 : decode cX6_look 37 = .ok (.getfield 71, 3) := by decide +kernel
theorem dX6_look_40 : decode cX6_look 40 = .ok (.iload 5, 2) := by decide +kernel
theorem dX6_look_42 : decode cX6_look 42 = .ok (.invokestatic 67, 3) := by decide +kernel
theorem dX6_look_45 : decode cX6_look 45 = .ok (.istore 6, 2) := by decide +kernel
theorem dX6_look_47 : decode cX6_look 47 = .ok (.iload 6, 2) := by decide +kernel
theorem dX6_look_49 : decode cX6_look 49 = .ok (.iconst 5, 1) := by decide +kernel
theorem dX6_look_50 : decode cX6_look 50 = .ok (.if_icmp .ne 30, 3) := by decide +kernel
theorem dX6_look_53 : decode cX6_look 53 = .ok (.aload_n 0, 1) := by decide +kernel
theorem dX6_look_54 : decode cX6_look 54 = .ok (.getfield 23, 3) := by decide +kernel
theorem dX6_look_57 : decode cX6_look 57 = .ok (.getfield 74, 3) := by decide +kernel
theorem dX6_look_60 : decode cX6_look 60 = .ok (.iload_n 2, 1) := by decide +kernel
theorem dX6_look_61 : decode cX6_look 61 = .ok (.isub, 1) := by decide +kernel
theorem dX6_look_62 : decode cX6_look 62 = .ok (.aload_n 0, 1) := by decide +kernel
theorem dX6_look_63 : decode cX6_look 63 = .ok (.getfield 12, 3) := by decide +kernel
theorem dX6_look_66 : decode cX6_look 66 = .ok (.getfield 77, 3) := by decide +kernel
theorem dX6_look_69 : decode cX6_look 69 = .ok (.iload 5, 2) := by decide +kernel
theorem dX6_look_71 : decode cX6_look 71 = .ok (.invokestatic 67, 3) := by decide +kernel
theorem dX6_look_74 : decode cX6_look 74 = .ok (.if_icmp .le 6, 3) := by decide +kernel
theorem dX6_look_77 : decode cX6_look 77 = .ok (.bipush (-9), 2) := by decide +kernel
theorem dX6_look_79 : decode cX6_look 79 = .ok (.ireturn, 1) := by decide +kernel
theorem dX6_look_80 : decode cX6_look 80 = .ok (.iload 6, 2) := by decide +kernel
theorem dX6_look_82 : decode cX6_look 82 = .ok (.iconst 4, 1) := by decide +kernel
theorem dX6_look_83 : decode cX6_look 83 = .ok (.if_icmp .eq 9, 3) := by decide +kernel
theorem dX6_look_86 : decode cX6_look 86 = .ok (.iload 6, 2) := by decide +kernel
theorem dX6_look_88 : decode cX6_look 88 = .ok (.iconst 5, 1) := by decide +kernel
theorem dX6_look_89 : decode cX6_look 89 = .ok (.if_icmp .ne 7, 3) := by decide +kernel
theorem dX6_look_92 : decode cX6_look 92 = .ok (.iconst 1, 1) := by decide +kernel
theorem dX6_look_93 : decode cX6_look 93 = .ok (.goto 4, 3) := by decide +kernel
theorem dX6_look_96 : decode cX6_look 96 = .ok (.iconst 0, 1) := by decide +kernel
theorem dX6_look_97 : decode cX6_look 97 = .ok (.istore 7, 2) := by decide +kernel
theorem dX6_look_99 : decode cX6_look 99 = .ok (.iconst 0, 1) := by decide +kernel
theorem dX6_look_100 : decode cX6_look 100 = .ok (.istore 8, 2) := by decide +kernel
theorem dX6_look_102 : decode cX6_look 102 = .ok (.iload 8, 2) := by decide +kernel
theorem dX6_look_104 : decode cX6_look 104 = .ok (.bipush 7, 2) := by decide +kernel
theorem dX6_look_106 : decode cX6_look 106 = .ok (.if_icmp .ge 102, 3) := by decide +kernel
theorem dX6_look_109 : decode cX6_look 109 = .ok (.iload 6, 2) := by decide +kernel
theorem dX6_look_111 : decode cX6_look 111 = .ok (.iload 8, 2) := by decide +kernel
theorem dX6_look_113 : decode cX6_look 113 = .ok (.invokestatic 80, 3) := by decide +kernel
theorem dX6_look_116 : decode cX6_look 116 = .ok (.istore 9, 2) := by decide +kernel
theorem dX6_look_118 : decode cX6_look 118 = .ok (.aload_n 0, 1) := by decide +kernel
theorem dX6_look_119 : decode cX6_look 119 = .ok (.iload 9, 2) := by decide +kernel
theorem dX6_look_121 : decode cX6_look 121 = .ok (.iload_n 1, 1) := by decide +kernel
theorem dX6_look_122 : decode cX6_look 122 = .ok (.iload_n 2, 1) := by decide +kernel
theorem dX6_look_123 : decode cX6_look 123 = .ok (.invokevirtual 84, 3) := by decide +kernel
theorem dX6_look_126 : decode cX6_look 126 = .ok (.istore 10, 2) := by decide +kernel
theorem dX6_look_128 : decode cX6_look 128 = .ok (.iload 10, 2) := by decide +kernel
theorem dX6_look_130 : decode cX6_look 130 = .ok (.ifCond .lt 32, 3) := by decide +kernel
theorem dX6_look_133 : decode cX6_look 133 = .ok (.aload_n 0, 1) := by decide +kernel
theorem dX6_look_134 : decode cX6_look 134 = .ok (.iload 10, 2) := by decide +kernel
theorem dX6_look_136 : decode cX6_look 136 = .ok (.iload_n 2, 1) := by decide +kernel
theorem dX6_look_137 : decode cX6_look 137 = .ok (.iconst 1, 1) := by decide +kernel
theorem dX6_look_138 : decode cX6_look 138 = .ok (.iadd, 1) := by decide +kernel
theorem dX6_look_139 : decode cX6_look 139 = .ok (.iload_n 3, 1) := by decide +kernel
theorem dX6_look_140 : decode cX6_look 140 = .ok (.iload 4, 2) := by decide +kernel
theorem dX6_look_142 : decode cX6_look 142 = .ok (.iconst 1, 1) := by decide +kernel
theorem dX6_look_143 : decode cX6_look 143 = .ok (.iadd, 1) := by decide +kernel
theorem dX6_look_144 : decode cX6_look 144 = .ok (.invokevirtual 50, 3) := by decide +kernel
theorem dX6_look_147 : decode cX6_look 147 = .ok (.istore 11, 2) := by decide +kernel
theorem dX6_look_149 : decode cX6_look 149 = .ok (.iload 11, 2) := by decide +kernel
theorem dX6_look_151 : decode cX6_look 151 = .ok (.ifCond .ge 43, 3) := by decide +kernel
theorem dX6_look_154 : decode cX6_look 154 = .ok (.iload 7, 2) := by decide +kernel
theorem dX6_look_156 : decode cX6_look 156 = .ok (.ifCond .eq 38, 3) := by decide +kernel
theorem dX6_look_159 : decode cX6_look 159 = .ok (.bipush (-9), 2) := by decide +kernel
theorem dX6_look_161 : decode cX6_look 161 = .ok (.ireturn, 1) := by decide +kernel
theorem dX6_look_162 : decode cX6_look 162 = .ok (.iload 9, 2) := by decide +kernel
theorem dX6_look_164 : decode cX6_look 164 = .ok (.bipush 77, 2) := by decide +kernel
theorem dX6_look_166 : decode cX6_look 166 = .ok (.if_icmp .ne 17, 3) := by decide +kernel
theorem dX6_look_169 : decode cX6_look 169 = .ok (.aload_n 0, 1) := by decide +kernel
theorem dX6_look_170 : decode cX6_look 170 = .ok (.iload_n 1, 1) := by decide +kernel
theorem dX6_look_171 : decode cX6_look 171 = .ok (.iload_n 2, 1) := by decide +kernel
theorem dX6_look_172 : decode cX6_look 172 = .ok (.iload_n 3, 1) := by decide +kernel
theorem dX6_look_173 : decode cX6_look 173 = .ok (.iload 4, 2) := by decide +kernel
theorem dX6_look_175 : decode cX6_look 175 = .ok (.invokevirtual 87, 3) := by decide +kernel
theorem dX6_look_178 : decode cX6_look 178 = .ok (.istore 11, 2) := by decide +kernel
theorem dX6_look_180 : decode cX6_look 180 = .ok (.goto 14, 3) := by decide +kernel
theorem dX6_look_183 : decode cX6_look 183 = .ok (.aload_n 0, 1) := by decide +kernel
theorem dX6_look_184 : decode cX6_look 184 = .ok (.iload 9, 2) := by decide +kernel
theorem dX6_look_186 : decode cX6_look 186 = .ok (.iload_n 1, 1) := by decide +kernel
theorem dX6_look_187 : decode cX6_look 187 = .ok (.iload_n 2, 1) := by decide +kernel
theorem dX6_look_188 : decode cX6_look 188 = .ok (.iload_n 3, 1) := by decide +kernel
theorem dX6_look_189 : decode cX6_look 189 = .ok (.invokevirtual 90, 3) := by decide +kernel
theorem dX6_look_192 : decode cX6_look 192 = .ok (.istore 11, 2) := by decide +kernel
theorem dX6_look_194 : decode cX6_look 194 = .ok (.iload 11, 2) := by decide +kernel
theorem dX6_look_196 : decode cX6_look 196 = .ok (.ifCond .lt 6, 3) := by decide +kernel
theorem dX6_look_199 : decode cX6_look 199 = .ok (.iload 11, 2) := by decide +kernel
theorem dX6_look_201 : decode cX6_look 201 = .ok (.ireturn, 1) := by decide +kernel
theorem dX6_look_202 : decode cX6_look 202 = .ok (.iinc 8 1, 3) := by decide +kernel
theorem dX6_look_205 : decode cX6_look 205 = .ok (.goto (-103), 3) := by decide +kernel
theorem dX6_look_208 : decode cX6_look 208 = .ok (.bipush (-9), 2) := by decide +kernel
theorem dX6_look_210 : decode cX6_look 210 = .ok (.ireturn, 1) := by decide +kernel
theorem lk_194 {d p : Nat} {D : Mem} {Φ : Int32 → Mem → Prop} {r0 : Nat} {y1 y2 y3 y4 y5 y6 y7 y9 y10 u : Int32} (h1 : ¬ u < 0 → Φ u D) (h2 : u < 0 → X d 138 j_X6_look 102 [some (.ref r0), some (.int y1), some (.int y2), some (.int y3), some (.int y4), some (.int y5), some (.int y6), some (.int y7), some (.int (nI (p + 1))), some (.int y9), some (.int y10), some (.int u)] [] (138, P0, D) (fun r σ => ∃ (v : Int32) (D' : Mem), r = [.int v] ∧ σ = wd D' ∧ Φ v D')) : X d 138 j_X6_look 194 [some (.ref r0), some (.int y1), some (.int y2), some (.int y3), some (.int y4), some (.int y5), some (.int y6), some (.int y7), some (.int (nI p)), some (.int y9), some (.int y10), some (.int u)] [] (138, P0, D) (fun r σ => ∃ (v : Int32) (D' : Mem), r = [.int v] ∧ σ = wd D' ∧ Φ v D') := by
  refine X_iload (nx := 196) dX6_look_194 rfl rfl ?_
  refine X_if_lt (tgt := 202) (nx := 199) dX6_look_196 rfl rfl (fun h196 => ?_) (fun h196 => ?_)
  · skip
    refine X_iinc (nx := 205) dX6_look_202 rfl (by decide) rfl (by first | exact ii1 _ | rfl) rfl (st_s (st_s (st_s (st_s (st_s (st_s (st_s (st_s (st_0))))))))) ?_
    refine X_goto (tgt := 102) dX6_look_205 rfl ?_
    exact h2 h196
  · skip
    refine X_iload (nx := 201) dX6_look_199 rfl rfl ?_
    exact Z_reti dX6_look_201 (Or.inl rfl) (h1 h196)
theorem lp_look {B : Bk} {K F : Nat → Nat} {L : List Nat} {w v n d j a dp : Nat} {q : Nd} {ms : List (Nat × Nat)} (hV : VB B) (hlk : LKP n d B K F L w v) (hd5 : 5 ≤ d) (hdp : n + (dp + 1) = 7) (hj : j < (nlG B 10).length) (hq : ng (nlG B 10) j = q) (ha : a ≤ L.length) (hms : ms.length ≤ q.1) (hq3 : q.1 < 3) (hK : K q.1 < 6) {st : Bool} : ∀ (m : Nat) (p : Nat) (D1 : Mem), p + m = 7 → WK_ D1 B K F L w v → TR D1 ms → X (d + 2) 138 j_X6_look 102 [some (.ref 79), some (.int (nI j)), some (.int (nI a)), some (.int (nI ms.length)), some (.int (nI dp)), some (.int (nI q.1)), some (.int (nI (K q.1))), some (.int (b2i st)), some (.int (nI p)), none, none, none] [] (138, P0, D1) (fun x σ => ∃ (u : Int32) (D' : Mem), x = [.int u] ∧ σ = wd D' ∧ WR D1 D' ms u (lkS (lk B w v L K F n) B w v L st q a ms ((ord7 (K q.1)).drop p))) := by
  intro m
  induction m with
  | zero =>
    intro p D1 hp hk hT
    have hl := (ord7_o (K q.1) hK).2
    refine X_iload (nx := 104) dX6_look_102 rfl rfl ?_
    refine X_bipush (v := nI 7) (nx := 106) dX6_look_104 rfl rfl ?_
    refine X_icmp_ge (tgt := 208) (nx := 109) dX6_look_106 rfl rfl (fun h106 => ?_) (fun h106 => ?_)
    · skip
      refine X_bipush (v := -9) (nx := 210) dX6_look_208 rfl rfl ?_
      exact Z_reti dX6_look_210 (Or.inl rfl) (by rw [List.drop_eq_nil_of_le (by omega)]; exact WR.self hT)
    · exact absurd h106 (fun q => q (nI_le (by omega) (by omega)))
  | succ m ih =>
    intro p D1 hp hk hT
    have hl := (ord7_o (K q.1) hK).2
    obtain ⟨hs6, hdr⟩ := ord7_s (K q.1) hK p (by omega)
    have hs128 : (ord7 (K q.1)).getD p 0 < 128 := by omega
    rw [hdr]
    have hn43 := hk.1.2.1.2.1
    refine X_iload (nx := 104) dX6_look_102 rfl rfl ?_
    refine X_bipush (v := nI 7) (nx := 106) dX6_look_104 rfl rfl ?_
    refine X_icmp_ge (tgt := 208) (nx := 109) dX6_look_106 rfl rfl (fun h106 => ?_) (fun h106 => ?_)
    · exact absurd h106 (nI_ge (by omega) (by omega))
    · skip
      refine X_iload (nx := 111) dX6_look_109 rfl rfl ?_
      refine X_iload (nx := 113) dX6_look_111 rfl rfl ?_
      refine Y_Si2 (nx := 116) dX6_look_113 rfl ml_RX6_80 kj_X6_stepOf ks_X6_stepOf (sp_X6_stepOf rfl hK rfl (by omega)) (by first | decide | omega) (by exact Nat.le_of_ble_eq_true rfl) ?_
      refine X_istore (i := 9) (nx := 118) dX6_look_116 rfl (by decide) rfl (st_s (st_s (st_s (st_s (st_s (st_s (st_s (st_s (st_s (st_0)))))))))) ?_
      refine X_aload_n (nx := 119) dX6_look_118 rfl rfl rfl ?_
      refine X_iload (nx := 121) dX6_look_119 rfl rfl ?_
      refine X_iload_n (nx := 122) dX6_look_121 rfl rfl rfl ?_
      refine X_iload_n (nx := 123) dX6_look_122 rfl rfl rfl ?_
      refine Y_Vi3 (nx := 126) dX6_look_123 rfl ml_RX6_84 kj_X6_nextBy kv_X6_nextBy (sp_X6_nextBy hk.1 hk.2.2.1 hk.2.2.2.1 hk.2.2.2.2.1 hj rfl hs6 rfl rfl ha) (by first | assumption | rfl | decide | omega) (by first | assumption | rfl | decide | omega) (by decide) rfl (by first | decide | omega) (by exact Nat.le_of_ble_eq_true rfl) ?_
      refine X_istore (i := 10) (nx := 128) dX6_look_126 rfl (by decide) rfl (st_s (st_s (st_s (st_s (st_s (st_s (st_s (st_s (st_s (st_s (st_0))))))))))) ?_
      refine X_iload (nx := 130) dX6_look_128 rfl rfl ?_
      refine X_if_lt (tgt := 162) (nx := 133) dX6_look_130 rfl rfl (fun h130 => ?_) (fun h130 => ?_)
      · skip
        have hn := opI_lt h130 (fun k hk2 => by have := ((nxI_q hk.1).1 k hk2).1; omega)
        have hx0 := (nxI_q hk.1).2 hn
        rw [hq] at hx0
        refine X_iload (nx := 164) dX6_look_162 rfl rfl ?_
        refine X_bipush (v := nI 77) (nx := 166) dX6_look_164 rfl rfl ?_
        refine X_icmp_ne (tgt := 183) (nx := 169) dX6_look_166 rfl rfl (fun h166 => ?_) (fun h166 => ?_)
        · skip
          rw [nI_eq (by omega) (by omega)] at h166
          refine X_aload_n (nx := 184) dX6_look_183 rfl rfl rfl ?_
          refine X_iload (nx := 186) dX6_look_184 rfl rfl ?_
          refine X_iload_n (nx := 187) dX6_look_186 rfl rfl rfl ?_
          refine X_iload_n (nx := 188) dX6_look_187 rfl rfl rfl ?_
          refine X_iload_n (nx := 189) dX6_look_188 rfl rfl rfl ?_
          refine Y_Vi4 (nx := 192) dX6_look_189 rfl ml_RX6_90 kj_X6_endBy kv_X6_endBy (sp_X6_endBy hk.1 hk.2.2.1 hk.2.2.2.1 hk.2.2.2.2.2.1 hk.2.2.2.2.2.2 hj rfl hs128 rfl rfl ha rfl) (by first | assumption | rfl | decide | omega) (by first | assumption | rfl | decide | omega) (by decide) rfl (by first | decide | omega) (by exact Nat.le_of_ble_eq_true rfl) ?_
          refine X_istore (i := 11) (nx := 194) dX6_look_192 rfl (by decide) rfl (st_s (st_s (st_s (st_s (st_s (st_s (st_s (st_s (st_s (st_s (st_s (st_0)))))))))))) ?_
          rw [hq]
          have hc := lkc_3 (LK := lk B w v L K F n) (v := v) (r := (ord7 (K q.1)).drop (p + 1)) (st := st) hx0 h166 hT (by omega)
          refine lk_194 hc.1 (fun h => ?_)
          obtain ⟨rr, g, e⟩ := hc.2 h
          refine X_fg12 ?_
          exact (ih (p + 1) _ (by omega) (g.wk hk) g.2.2.2.1).mono (fun vs σ h => by obtain ⟨u, D2, e1, e2, e3⟩ := h; exact ⟨u, D2, e1, e2, by rw [e]; exact g.then e3⟩)
        · skip
          rw [nI_eq (by omega) (by omega)] at h166
          refine X_aload_n (nx := 170) dX6_look_169 rfl rfl rfl ?_
          refine X_iload_n (nx := 171) dX6_look_170 rfl rfl rfl ?_
          refine X_iload_n (nx := 172) dX6_look_171 rfl rfl rfl ?_
          refine X_iload_n (nx := 173) dX6_look_172 rfl rfl rfl ?_
          refine X_iload (nx := 175) dX6_look_173 rfl rfl ?_
          refine Z_Vi4 (nx := 178) dX6_look_175 rfl ml_RX6_87 kj_X6_lookAtMounts kv_X6_lookAtMounts (sp_X6_lookAtMounts hV hlk (by omega) hdp hj hq ha hms hq3 hk hT) (by first | assumption | rfl | decide | omega) (by first | assumption | rfl | decide | omega) (by decide) rfl (by first | decide | omega) (by exact Nat.le_of_ble_eq_true rfl) (fun u175 D175 g175 => ?_)
          refine X_istore (i := 11) (nx := 180) dX6_look_178 rfl (by decide) rfl (st_s (st_s (st_s (st_s (st_s (st_s (st_s (st_s (st_s (st_s (st_s (st_0)))))))))))) ?_
          have hc := lkc_2 (v := v) (r := (ord7 (K q.1)).drop (p + 1)) (st := st) hx0 h166 g175
          refine X_goto (tgt := 194) dX6_look_180 rfl ?_
          refine lk_194 hc.1 (fun h => ?_)
          obtain ⟨rr, g, e⟩ := hc.2 h
          refine X_fg12 ?_
          exact (ih (p + 1) _ (by omega) (g.wk hk) g.2.2.2.1).mono (fun vs σ h => by obtain ⟨u, D2, e1, e2, e3⟩ := h; exact ⟨u, D2, e1, e2, by rw [e]; exact g.then e3⟩)
      · skip
        obtain ⟨k, hk0⟩ := Option.isSome_iff_exists.mp (opI_ge h130)
        obtain ⟨k1, k2, k3, k4⟩ := (nxI_q hk.1).1 k hk0
        rw [hq] at k2 k3
        rw [hk0]
        refine X_aload_n (nx := 134) dX6_look_133 rfl rfl rfl ?_
        refine X_iload (nx := 136) dX6_look_134 rfl rfl ?_
        refine X_iload_n (nx := 137) dX6_look_136 rfl rfl rfl ?_
        refine X_iconst (v := 1) (nx := 138) dX6_look_137 rfl rfl ?_
        refine X_iadd (nx := 139) dX6_look_138 rfl ?_
        refine X_top (nI_1 _) ?_
        refine X_iload_n (nx := 140) dX6_look_139 rfl rfl rfl ?_
        refine X_iload (nx := 142) dX6_look_140 rfl rfl ?_
        refine X_iconst (v := 1) (nx := 143) dX6_look_142 rfl rfl ?_
        refine X_iadd (nx := 144) dX6_look_143 rfl ?_
        refine X_top (nI_1 _) ?_
        refine Z_Vi4 (nx := 147) dX6_look_144 rfl ml_RX6_50 kj_X6_look kv_X6_look (hlk _ k (a + 1) ms (dp + 1) _ hdp hk k1 rfl (by omega) (by rw [k3]; exact hms) (by rw [k3]; exact hq3) hT) (by first | assumption | rfl | decide | omega) (by first | assumption | rfl | decide | omega) (by decide) rfl (by first | decide | omega) (by exact Nat.le_of_ble_eq_true rfl) (fun u144 D144 g144 => ?_)
        refine X_istore (i := 11) (nx := 149) dX6_look_147 rfl (by decide) rfl (st_s (st_s (st_s (st_s (st_s (st_s (st_s (st_s (st_s (st_s (st_s (st_0)))))))))))) ?_
        refine X_iload (nx := 151) dX6_look_149 rfl rfl ?_
        refine X_if_ge (tgt := 194) (nx := 154) dX6_look_151 rfl rfl (fun h151 => ?_) (fun h151 => ?_)
        · skip
          have hc := lkc_1 (v := v) (r := (ord7 (K q.1)).drop (p + 1)) (st := st) k2 g144 (Or.inl (fun h => absurd h (Int32.not_lt.mpr h151)))
          refine lk_194 hc.1 (fun h => ?_)
          obtain ⟨rr, g, e⟩ := hc.2 h
          refine X_fg12 ?_
          exact (ih (p + 1) _ (by omega) (g.wk hk) g.2.2.2.1).mono (fun vs σ h => by obtain ⟨u, D2, e1, e2, e3⟩ := h; exact ⟨u, D2, e1, e2, by rw [e]; exact g.then e3⟩)
        · skip
          have h151n : u144 < 0 := Int32.not_le.mp h151
          refine X_iload (nx := 156) dX6_look_154 rfl rfl ?_
          refine X_if_eq (tgt := 194) (nx := 159) dX6_look_156 rfl rfl (fun h156 => ?_) (fun h156 => ?_)
          · skip
            have hc := lkc_1 (v := v) (r := (ord7 (K q.1)).drop (p + 1)) (st := st) k2 g144 (Or.inr (b2i_f.mp h156))
            refine lk_194 hc.1 (fun h => ?_)
            obtain ⟨rr, g, e⟩ := hc.2 h
            refine X_fg12 ?_
            exact (ih (p + 1) _ (by omega) (g.wk hk) g.2.2.2.1).mono (fun vs σ h => by obtain ⟨u, D2, e1, e2, e3⟩ := h; exact ⟨u, D2, e1, e2, by rw [e]; exact g.then e3⟩)
          · skip
            have hz := lkc_s (v := v) (r := (ord7 (K q.1)).drop (p + 1)) (st := st) k2 g144 h151n (b2i_t.mp h156)
            rw [hz]
            refine X_bipush (v := -9) (nx := 161) dX6_look_159 rfl rfl ?_
            exact Z_reti dX6_look_161 (Or.inl rfl) (g144.miss)
theorem lp_look97 {B : Bk} {K F : Nat → Nat} {L : List Nat} {w v n d j a dp : Nat} {q : Nd} {ms : List (Nat × Nat)} (hV : VB B) (hlk : LKP n d B K F L w v) (hd5 : 5 ≤ d) (hdp : n + (dp + 1) = 7) (hj : j < (nlG B 10).length) (hq : ng (nlG B 10) j = q) (ha : a ≤ L.length) (hms : ms.length ≤ q.1) (hq3 : q.1 < 3) (hK : K q.1 < 6) {D : Mem} {st : Bool} {x : Int32} (hx : x = b2i st) (hk : WK_ D B K F L w v) (hT : TR D ms) : X (d + 2) 138 j_X6_look 97 [some (.ref 79), some (.int (nI j)), some (.int (nI a)), some (.int (nI ms.length)), some (.int (nI dp)), some (.int (nI q.1)), some (.int (nI (K q.1))), none, none, none, none, none] [.int x] (138, P0, D) (fun x σ => ∃ (u : Int32) (D' : Mem), x = [.int u] ∧ σ = wd D' ∧ WR D D' ms u (lkS (lk B w v L K F n) B w v L st q a ms (ord7 (K q.1)))) := by
  subst hx
  refine X_istore (i := 7) (nx := 99) dX6_look_97 rfl (by decide) rfl (st_s (st_s (st_s (st_s (st_s (st_s (st_s (st_0)))))))) ?_
  refine X_iconst (v := nI 0) (nx := 100) dX6_look_99 rfl rfl ?_
  refine X_istore (i := 8) (nx := 102) dX6_look_100 rfl (by decide) rfl (st_s (st_s (st_s (st_s (st_s (st_s (st_s (st_s (st_0))))))))) ?_
  exact lp_look hV hlk hd5 hdp hj hq ha hms hq3 hK 7 0 D rfl hk hT
theorem sp_look_s {B : Bk} {K F : Nat → Nat} {L : List Nat} {w v n d j a dp : Nat} {q : Nd} {ms : List (Nat × Nat)} (hV : VB B) (hlk : LKP n d B K F L w v) (hd5 : 5 ≤ d) (hdp : n + (dp + 1) = 7) (hj : j < (nlG B 10).length) (hq : ng (nlG B 10) j = q) (ha : a ≤ L.length) (hms : ms.length ≤ q.1) (hq3 : q.1 < 3) {D : Mem} (hk : WK_ D B K F L w v) (hT : TR D ms) : Rix (d + 2) j_X6_look [.ref 79, .int (nI j), .int (nI a), .int (nI ms.length), .int (nI dp)] D (fun u D' => WR D D' ms u (lk B w v L K F (n + 1) q a ms)) := by
  refine E.start 7 (ls := [some (.ref 79), some (.int (nI j)), some (.int (nI a)), some (.int (nI ms.length)), some (.int (nI dp)), none, none, none, none, none, none, none]) (by decide +kernel) (Nat.le_of_ble_eq_true rfl) rfl (Nat.le_refl _) (Nat.le_refl _) ?_
  have hn43 := hk.1.2.1.2.1
  obtain ⟨n1, n2⟩ := hk.1.2.2.1 j hj
  rw [hq] at n1
  obtain ⟨f1, f2, f3, f4⟩ := hk.2.1 q.1 hq3
  have hb := hk.2.2.1.1
  have hk1 : WK_ (up2 D 79 6 (D 79 6 + 1)) B K F L w v := hk.kept (fun x h1 _ _ => up2_other (by omega)) (Fr.up (Or.inl rfl))
  have hT1 := (WR.seen hT).2.2.2.1
  have hly : (lay 82).2 = 43 ∧ (lay 83).2 = 43 ∧ (lay 84).2 = 43 ∧ (lay 85).2 = 43 ∧ (lay 86).2 = 43 ∧ (lay 81).2 = 301 ∧ (lay 87).2 = 10 ∧ (lay 88).2 = 4 ∧ (lay 89).2 = 3 ∧ (lay 90).2 = 3 ∧ (lay 91).2 = 3 ∧ (lay 94).2 = 3 ∧ (lay 95).2 = 3 := by decide
  refine X_iload (nx := 2) dX6_look_0 rfl rfl ?_
  refine X_bipush (v := nI 6) (nx := 4) dX6_look_2 rfl rfl ?_
  refine X_icmp_le (tgt := 10) (nx := 7) dX6_look_4 rfl rfl (fun h4 => ?_) (fun h4 => ?_)
  · skip
    refine X_aload_n (nx := 11) dX6_look_10 rfl rfl rfl ?_
    refine X_dup (nx := 12) dX6_look_11 rfl rfl ?_
    refine M_getI (nx := 15) dX6_look_12 rfl fl_RX6_47 rfl (by first | assumption | rfl | decide | omega) (by first | assumption | rfl | decide | omega) ?_
    refine X_iconst (v := 1) (nx := 16) dX6_look_15 rfl rfl ?_
    refine X_iadd (nx := 17) dX6_look_16 rfl ?_
    refine M_putI (nx := 20) dX6_look_17 rfl fl_RX6_47 rfl rfl (by first | assumption | rfl | decide | omega) (by first | assumption | rfl | decide | omega) ?_
    refine X_aload_n (nx := 21) dX6_look_20 rfl rfl rfl ?_
    refine M_getP (nx := 24) dX6_look_21 rfl fl_RX6_12 rfl (by first | assumption | rfl | decide | omega) (by first | assumption | rfl | decide | omega) (by first | assumption | rfl | decide | omega) ?_
    refine M_getP (nx := 27) dX6_look_24 rfl fl_RX6_64 rfl (by first | assumption | rfl | decide | omega) (by first | assumption | rfl | decide | omega) (by first | assumption | rfl | decide | omega) ?_
    refine X_iload_n (nx := 28) dX6_look_27 rfl rfl rfl ?_
    refine Y_Si2 (nx := 31) dX6_look_28 rfl ml_RX6_67 kj_X7_numberAt ks_X7_numberAt (sp_X7_numberAt (i := j) (by decide) (by decide) rfl (by omega)) (by first | decide | omega) (by exact Nat.le_of_ble_eq_true rfl) ?_
    refine X_top ((up2_other (by omega)).trans n1) ?_
    refine X_istore (i := 5) (nx := 33) dX6_look_31 rfl (by decide) rfl (st_s (st_s (st_s (st_s (st_s (st_0)))))) ?_
    refine X_aload_n (nx := 34) dX6_look_33 rfl rfl rfl ?_
    refine M_getP (nx := 37) dX6_look_34 rfl fl_RX6_12 rfl (by first | assumption | rfl | decide | omega) (by first | assumption | rfl | decide | omega) (by first | assumption | rfl | decide | omega) ?_
    refine M_getP (nx := 40) dX6_look_37 rfl fl_RX6_71 rfl (by first | assumption | rfl | decide | omega) (by first | assumption | rfl | decide | omega) (by first | assumption | rfl | decide | omega) ?_
    refine X_iload (nx := 42) dX6_look_40 rfl rfl ?_
    refine Y_Si2 (nx := 45) dX6_look_42 rfl ml_RX6_67 kj_X7_numberAt ks_X7_numberAt (sp_X7_numberAt (i := q.1) (by decide) (by decide) rfl (by omega)) (by first | decide | omega) (by exact Nat.le_of_ble_eq_true rfl) ?_
    refine X_top ((up2_other (by omega)).trans f1) ?_
    refine X_istore (i := 6) (nx := 47) dX6_look_45 rfl (by decide) rfl (st_s (st_s (st_s (st_s (st_s (st_s (st_0))))))) ?_
    refine X_iload (nx := 49) dX6_look_47 rfl rfl ?_
    refine X_iconst (v := nI 5) (nx := 50) dX6_look_49 rfl rfl ?_
    refine X_icmp_ne (tgt := 80) (nx := 53) dX6_look_50 rfl rfl (fun h50 => ?_) (fun h50 => ?_)
    · skip
      rw [nI_eq (by omega) (by omega)] at h50
      refine X_iload (nx := 82) dX6_look_80 rfl rfl ?_
      refine X_iconst (v := nI 4) (nx := 83) dX6_look_82 rfl rfl ?_
      refine X_icmp_eq (tgt := 92) (nx := 86) dX6_look_83 rfl rfl (fun h83 => ?_) (fun h83 => ?_)
      · skip
        rw [nI_eq (by omega) (by omega)] at h83
        refine X_iconst (v := 1) (nx := 93) dX6_look_92 rfl rfl ?_
        refine X_goto (tgt := 97) dX6_look_93 rfl ?_
        have hz : lk B w v L K F (n + 1) q a ms = addc 1 (lkS (lk B w v L K F n) B w v L (decide (K q.1 = 4) || decide (K q.1 = 5)) q a ms (ordS (oi (K q.1)))) := if_neg (fun z => by first | exact h50 z.1 | exact absurd h74 (by omega))
        rw [← lk7 (show K q.1 < 6 by omega)] at hz
        refine (lp_look97 hV hlk hd5 hdp hj hq ha hms hq3 (by omega) (st := decide (K q.1 = 4) || decide (K q.1 = 5)) (by first | simp [b2i, h83, h89] | simp [b2i, h83]) hk1 hT1).mono (fun vs σ h => ?_)
        obtain ⟨u, D2, e1, e2, e3⟩ := h
        exact ⟨u, D2, e1, e2, by rw [hz]; exact (WR.seen hT).then e3⟩
      · skip
        rw [nI_eq (by omega) (by omega)] at h83
        refine X_iload (nx := 88) dX6_look_86 rfl rfl ?_
        refine X_iconst (v := nI 5) (nx := 89) dX6_look_88 rfl rfl ?_
        refine X_icmp_ne (tgt := 96) (nx := 92) dX6_look_89 rfl rfl (fun h89 => ?_) (fun h89 => ?_)
        · skip
          rw [nI_eq (by omega) (by omega)] at h89
          refine X_iconst (v := 0) (nx := 97) dX6_look_96 rfl rfl ?_
          have hz : lk B w v L K F (n + 1) q a ms = addc 1 (lkS (lk B w v L K F n) B w v L (decide (K q.1 = 4) || decide (K q.1 = 5)) q a ms (ordS (oi (K q.1)))) := if_neg (fun z => by first | exact h50 z.1 | exact absurd h74 (by omega))
          rw [← lk7 (show K q.1 < 6 by omega)] at hz
          refine (lp_look97 hV hlk hd5 hdp hj hq ha hms hq3 (by omega) (st := decide (K q.1 = 4) || decide (K q.1 = 5)) (by first | simp [b2i, h83, h89] | simp [b2i, h83]) hk1 hT1).mono (fun vs σ h => ?_)
          obtain ⟨u, D2, e1, e2, e3⟩ := h
          exact ⟨u, D2, e1, e2, by rw [hz]; exact (WR.seen hT).then e3⟩
        · skip
          rw [nI_eq (by omega) (by omega)] at h89
          refine X_iconst (v := 1) (nx := 93) dX6_look_92 rfl rfl ?_
          refine X_goto (tgt := 97) dX6_look_93 rfl ?_
          have hz : lk B w v L K F (n + 1) q a ms = addc 1 (lkS (lk B w v L K F n) B w v L (decide (K q.1 = 4) || decide (K q.1 = 5)) q a ms (ordS (oi (K q.1)))) := if_neg (fun z => by first | exact h50 z.1 | exact absurd h74 (by omega))
          rw [← lk7 (show K q.1 < 6 by omega)] at hz
          refine (lp_look97 hV hlk hd5 hdp hj hq ha hms hq3 (by omega) (st := decide (K q.1 = 4) || decide (K q.1 = 5)) (by first | simp [b2i, h83, h89] | simp [b2i, h83]) hk1 hT1).mono (fun vs σ h => ?_)
          obtain ⟨u, D2, e1, e2, e3⟩ := h
          exact ⟨u, D2, e1, e2, by rw [hz]; exact (WR.seen hT).then e3⟩
    · skip
      rw [nI_eq (by omega) (by omega)] at h50
      refine X_aload_n (nx := 54) dX6_look_53 rfl rfl rfl ?_
      refine M_getP (nx := 57) dX6_look_54 rfl fl_RX6_23 rfl (by first | assumption | rfl | decide | omega) (by first | assumption | rfl | decide | omega) (by first | assumption | rfl | decide | omega) ?_
      refine M_getI (nx := 60) dX6_look_57 rfl fl_RX6_74 rfl (by first | assumption | rfl | decide | omega) (by first | assumption | rfl | decide | omega) ?_
      refine X_top ((up2_other (by omega)).trans hk.2.2.1.2.1) ?_
      refine X_iload_n (nx := 61) dX6_look_60 rfl rfl rfl ?_
      refine X_isub (nx := 62) dX6_look_61 rfl ?_
      refine X_top (sub_nI ha) ?_
      refine X_aload_n (nx := 63) dX6_look_62 rfl rfl rfl ?_
      refine M_getP (nx := 66) dX6_look_63 rfl fl_RX6_12 rfl (by first | assumption | rfl | decide | omega) (by first | assumption | rfl | decide | omega) (by first | assumption | rfl | decide | omega) ?_
      refine M_getP (nx := 69) dX6_look_66 rfl fl_RX6_77 rfl (by first | assumption | rfl | decide | omega) (by first | assumption | rfl | decide | omega) (by first | assumption | rfl | decide | omega) ?_
      refine X_iload (nx := 71) dX6_look_69 rfl rfl ?_
      refine Y_Si2 (nx := 74) dX6_look_71 rfl ml_RX6_67 kj_X7_numberAt ks_X7_numberAt (sp_X7_numberAt (i := q.1) (by decide) (by decide) rfl (by omega)) (by first | decide | omega) (by exact Nat.le_of_ble_eq_true rfl) ?_
      refine X_top ((up2_other (by omega)).trans f2) ?_
      refine X_icmp_le (tgt := 80) (nx := 77) dX6_look_74 rfl rfl (fun h74 => ?_) (fun h74 => ?_)
      · skip
        rw [nI_leI (by omega) (by omega)] at h74
        refine X_iload (nx := 82) dX6_look_80 rfl rfl ?_
        refine X_iconst (v := nI 4) (nx := 83) dX6_look_82 rfl rfl ?_
        refine X_icmp_eq (tgt := 92) (nx := 86) dX6_look_83 rfl rfl (fun h83 => ?_) (fun h83 => ?_)
        · skip
          rw [nI_eq (by omega) (by omega)] at h83
          refine X_iconst (v := 1) (nx := 93) dX6_look_92 rfl rfl ?_
          refine X_goto (tgt := 97) dX6_look_93 rfl ?_
          have hz : lk B w v L K F (n + 1) q a ms = addc 1 (lkS (lk B w v L K F n) B w v L (decide (K q.1 = 4) || decide (K q.1 = 5)) q a ms (ordS (oi (K q.1)))) := if_neg (fun z => by first | exact h50 z.1 | exact absurd h74 (by omega))
          rw [← lk7 (show K q.1 < 6 by omega)] at hz
          refine (lp_look97 hV hlk hd5 hdp hj hq ha hms hq3 (by omega) (st := decide (K q.1 = 4) || decide (K q.1 = 5)) (by first | simp [b2i, h83, h89] | simp [b2i, h83]) hk1 hT1).mono (fun vs σ h => ?_)
          obtain ⟨u, D2, e1, e2, e3⟩ := h
          exact ⟨u, D2, e1, e2, by rw [hz]; exact (WR.seen hT).then e3⟩
        · skip
          rw [nI_eq (by omega) (by omega)] at h83
          refine X_iload (nx := 88) dX6_look_86 rfl rfl ?_
          refine X_iconst (v := nI 5) (nx := 89) dX6_look_88 rfl rfl ?_
          refine X_icmp_ne (tgt := 96) (nx := 92) dX6_look_89 rfl rfl (fun h89 => ?_) (fun h89 => ?_)
          · skip
            rw [nI_eq (by omega) (by omega)] at h89
            refine X_iconst (v := 0) (nx := 97) dX6_look_96 rfl rfl ?_
            have hz : lk B w v L K F (n + 1) q a ms = addc 1 (lkS (lk B w v L K F n) B w v L (decide (K q.1 = 4) || decide (K q.1 = 5)) q a ms (ordS (oi (K q.1)))) := if_neg (fun z => by first | exact h50 z.1 | exact absurd h74 (by omega))
            rw [← lk7 (show K q.1 < 6 by omega)] at hz
            refine (lp_look97 hV hlk hd5 hdp hj hq ha hms hq3 (by omega) (st := decide (K q.1 = 4) || decide (K q.1 = 5)) (by first | simp [b2i, h83, h89] | simp [b2i, h83]) hk1 hT1).mono (fun vs σ h => ?_)
            obtain ⟨u, D2, e1, e2, e3⟩ := h
            exact ⟨u, D2, e1, e2, by rw [hz]; exact (WR.seen hT).then e3⟩
          · skip
            rw [nI_eq (by omega) (by omega)] at h89
            refine X_iconst (v := 1) (nx := 93) dX6_look_92 rfl rfl ?_
            refine X_goto (tgt := 97) dX6_look_93 rfl ?_
            have hz : lk B w v L K F (n + 1) q a ms = addc 1 (lkS (lk B w v L K F n) B w v L (decide (K q.1 = 4) || decide (K q.1 = 5)) q a ms (ordS (oi (K q.1)))) := if_neg (fun z => by first | exact h50 z.1 | exact absurd h74 (by omega))
            rw [← lk7 (show K q.1 < 6 by omega)] at hz
            refine (lp_look97 hV hlk hd5 hdp hj hq ha hms hq3 (by omega) (st := decide (K q.1 = 4) || decide (K q.1 = 5)) (by first | simp [b2i, h83, h89] | simp [b2i, h83]) hk1 hT1).mono (fun vs σ h => ?_)
            obtain ⟨u, D2, e1, e2, e3⟩ := h
            exact ⟨u, D2, e1, e2, by rw [hz]; exact (WR.seen hT).then e3⟩
      · skip
        rw [nI_leI (by omega) (by omega)] at h74
        refine X_bipush (v := -9) (nx := 79) dX6_look_77 rfl rfl ?_
        exact Z_reti dX6_look_79 (Or.inl rfl) (by rw [show lk B w v L K F (n + 1) q a ms = (none, 1) from if_pos ⟨h50, by omega⟩]; exact WR.seen hT)
  · exact absurd h4 (fun q => q (nI_le (by omega) (by omega)))
theorem sp_look_0 {B : Bk} {K F : Nat → Nat} {L : List Nat} {w v j a : Nat} {q : Nd} {ms : List (Nat × Nat)} {D : Mem} (hT : TR D ms) : Rix 5 j_X6_look [.ref 79, .int (nI j), .int (nI a), .int (nI ms.length), .int (nI 7)] D (fun u D' => WR D D' ms u (lk B w v L K F 0 q a ms)) := by
  refine E.start 7 (ls := [some (.ref 79), some (.int (nI j)), some (.int (nI a)), some (.int (nI ms.length)), some (.int (nI 7)), none, none, none, none, none, none, none]) (by decide +kernel) (Nat.le_of_ble_eq_true rfl) rfl (Nat.le_refl _) (Nat.le_refl _) ?_
  refine X_iload (nx := 2) dX6_look_0 rfl rfl ?_
  refine X_bipush (v := nI 6) (nx := 4) dX6_look_2 rfl rfl ?_
  refine X_icmp_le (tgt := 10) (nx := 7) dX6_look_4 rfl rfl (fun h4 => ?_) (fun h4 => ?_)
  · exact absurd h4 (nI_ge (by omega) (by omega))
  · skip
    refine X_bipush (v := -9) (nx := 9) dX6_look_7 rfl rfl ?_
    exact Z_reti dX6_look_9 (Or.inl rfl) (WR.self hT)
theorem LK_0 {B : Bk} {K F : Nat → Nat} {L : List Nat} {w v : Nat} : LKP 0 5 B K F L w v := by
  intro D j a ms dp q h1 _ _ _ _ _ _ hT
  obtain rfl : dp = 7 := by omega
  exact sp_look_0 hT
theorem LK_s {n d : Nat} {B : Bk} {K F : Nat → Nat} {L : List Nat} {w v : Nat} (hV : VB B) (hd : 5 ≤ d) (h : LKP n d B K F L w v) : LKP (n + 1) (d + 2) B K F L w v := fun D j a ms dp q h1 hk hj hq ha hms hq3 hT => sp_look_s hV h hd (by omega) hj hq ha hms hq3 hk hT
theorem LK_7 {B : Bk} {K F : Nat → Nat} {L : List Nat} {w v : Nat} (hV : VB B) : LKP 7 19 B K F L w v :=
  LK_s hV (by omega) (LK_s hV (by omega) (LK_s hV (by omega) (LK_s hV (by omega) (LK_s hV (by omega) (LK_s hV (by omega) (LK_s hV (by omega) LK_0))))))
