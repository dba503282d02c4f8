/-! THE REFERENCE: lost -/
def lsD (d : Nat) : List Nat := (List.range 6).filter d.testBit
def dep (ls : List Nat) (s : Nat) : Nat := ((List.range ls.length).filter s.testBit).foldl (fun a k => a + 2 ^ (ls.getD k 0)) 0
def zc (s : Nat) : Nat → Nat
  | 0 => 0
  | k + 1 => zc s k + (if s.testBit k = true then 0 else 1)
theorem ld_1 : ∀ d, d < 64 → ((List.range (2 ^ (lsD d).length)).map (dep (lsD d))).isPerm ((List.range 64).filter (fun g => decide (g &&& (63 - d) = 0))) = true := by decide +kernel
theorem ld_2 : ∀ d, d < 64 → ∀ s, s < 64 → s < 2 ^ (lsD d).length → pop (d &&& (63 - dep (lsD d) s)) = zc s (lsD d).length := by decide +kernel
theorem ld_3 : ∀ d, d < 64 → ∀ s, s < 64 → s < 2 ^ (lsD d).length → ∀ k, k < 6 → k < (lsD d).length → (dep (lsD d) s).testBit ((lsD d).getD k 0) = s.testBit k := by decide +kernel
theorem ld_4 : ∀ d, d < 64 → ∀ s, s < 64 → s < 2 ^ (lsD d).length → ∀ i, i < 10 → ((lsD d).contains i || !(dep (lsD d) s).testBit i) = true := by decide +kernel
theorem ld_5 : ∀ d, d < 64 → (lsD d).length = pop d ∧ (lsD d).length ≤ 6 := by decide +kernel
theorem ld_6 : ∀ d, d < 64 → ∀ k, k < 6 → k < (lsD d).length → (lsD d).getD k 0 < 6 ∧ d.testBit ((lsD d).getD k 0) = true ∧ ∀ j, j < k → (lsD d).getD j 0 ≠ (lsD d).getD k 0 := by decide +kernel
def lsT (B : Bk) (i : Nat) : List Nat := (List.range i).filter (thN B)
theorem dS_tb {S : St} {i : Nat} (hi : i < 6) : (dS S).testBit i = thN (bk S) i := by
  show (wS S % 2 ^ 6).testBit i = _
  rw [Nat.testBit_mod_two_pow, decide_eq_true hi, Bool.true_and]
  unfold wS
  rw [mkn_tb, decide_eq_true (by omega : i < 10), Bool.true_and]
theorem lsT_D {S : St} : lsT (bk S) 6 = lsD (dS S) := by
  unfold lsT lsD
  refine List.filter_congr (fun x hx => ?_)
  rw [dS_tb (List.mem_range.mp hx)]
theorem lsT_s {B : Bk} {i : Nat} : lsT B (i + 1) = if thN B i = true then lsT B i ++ [i] else lsT B i := by
  unfold lsT
  rw [List.range_succ, List.filter_append, List.filter_cons]
  by_cases h : thN B i = true
  · rw [if_pos h, if_pos h]; rfl
  · rw [if_neg h, if_neg h]; simp
theorem lsT_len (B : Bk) (i : Nat) : (lsT B i).length ≤ i := Nat.le_trans (List.length_filter_le _ _) (by rw [List.length_range]; exact Nat.le_refl _)
def lsm (f : Nat → Nat) (l : List Nat) : Nat := (l.map f).foldr (fun a b => a + b) 0
theorem lsmc {f : Nat → Nat} {x : Nat} {l : List Nat} : lsm f (x :: l) = f x + lsm f l := rfl
theorem lsma {f : Nat → Nat} {l l' : List Nat} : lsm f (l ++ l') = lsm f l + lsm f l' := by
  induction l with
  | nil => show lsm f l' = 0 + _; rw [Nat.zero_add]
  | cons x l ih => show lsm f (x :: (l ++ l')) = _; rw [lsmc, lsmc, ih, Nat.add_assoc]
theorem lsmp {f : Nat → Nat} {l l' : List Nat} (h : l.Perm l') : lsm f l = lsm f l' := by
  induction h with
  | nil => rfl
  | cons x _ ih => rw [lsmc, lsmc, ih]
  | swap x y l => rw [lsmc, lsmc, lsmc, lsmc]; omega
  | trans _ _ h1 h2 => exact h1.trans h2
theorem lsmr {f : Nat → Nat} : ∀ n, lsm f (List.range n) = sumN f n := by
  intro n
  induction n with
  | zero => rfl
  | succ n ih => rw [List.range_succ, lsma, ih]; show sumN f n + (f n + 0) = sumN f n + f n; rw [Nat.add_zero]
theorem lsmm {f g : Nat → Nat} {l : List Nat} : lsm f (l.map g) = lsm (fun x => f (g x)) l := by
  induction l with
  | nil => rfl
  | cons x l ih => show lsm f (g x :: l.map g) = _; rw [lsmc, lsmc, ih]
theorem lsmf {f : Nat → Nat} {p : Nat → Bool} (h : ∀ x, p x = false → f x = 0) {l : List Nat} : lsm f (l.filter p) = lsm f l := by
  induction l with
  | nil => rfl
  | cons x l ih =>
    rw [List.filter_cons]
    by_cases hp : p x = true
    · rw [if_pos hp, lsmc, lsmc, ih]
    · rw [if_neg hp, lsmc, ih, h x (Bool.eq_false_iff.mpr hp), Nat.zero_add]
theorem sumN_congr {f g : Nat → Nat} : ∀ n, (∀ k, k < n → f k = g k) → sumN f n = sumN g n := by
  intro n
  induction n with
  | zero => intro _; rfl
  | succ n ih => intro h; show sumN f n + f n = sumN g n + g n; rw [ih (fun k hk => h k (by omega)), h n (by omega)]
/-- what a set of the lost ones weighs -/
def ltF (S : St) (p v t s : Nat) : Nat := if (mtE (bk S) (wg S (dep (lsD (dS S)) s)) v p (kd_ (bk S)) (fg_ (bk S))).isSome = true then (t - 1) ^ zc s (lsD (dS S)).length else 0
theorem pow_64 : ∀ n, n ≤ 6 → 2 ^ n ≤ 64 := by decide
theorem lt_sum {S : St} {p v t : Nat} : sumN (ltF S p v t) (2 ^ (lsD (dS S)).length) = sumN (lsF S p v t) 64 := by
  have hd := dS_lt S
  obtain ⟨h5, h6⟩ := ld_5 (dS S) hd
  have h64 := pow_64 _ h6
  rw [← lsmr 64, ← lsmf (f := lsF S p v t) (p := fun g => decide (g &&& (63 - dS S) = 0)) (fun x hx => if_neg (fun q => of_decide_eq_false hx q.1)), ← lsmp (List.isPerm_iff.mp (ld_1 (dS S) hd)), lsmm, lsmr]
  refine sumN_congr _ (fun s hs => ?_)
  have h2 := ld_2 (dS S) hd s (by omega) hs
  have hm : dep (lsD (dS S)) s ∈ (List.range 64).filter (fun g => decide (g &&& (63 - dS S) = 0)) := (List.isPerm_iff.mp (ld_1 (dS S) hd)).mem_iff.mp (List.mem_map.mpr ⟨s, List.mem_range.mpr hs, rfl⟩)
  have hg := of_decide_eq_true (List.mem_filter.mp hm).2
  unfold ltF lsF
  rw [h2]
  by_cases h : (mtE (bk S) (wg S (dep (lsD (dS S)) s)) v p (kd_ (bk S)) (fg_ (bk S))).isSome = true
  · rw [if_pos h, if_pos ⟨hg, h⟩]
  · rw [if_neg h, if_neg (fun q => h q.2)]
theorem rb_Tc {D : Mem} {B : Bk} {T T' : Nat → Bool} {K F : Nat → Nat} (h : RB D B T K F) (he : ∀ i, i < cm_ B → T i = T' i) : RB D B T' K F := ⟨h.1, h.2.1, fun i hi => ⟨(h.2.2 i hi).1.trans (congrArg b2i (he i hi)), (h.2.2 i hi).2⟩⟩
def LSD (B : Bk) (D : Mem) : Prop := ∀ k, k < (lsT B 6).length → D 136 k = nI ((lsT B 6).getD k 0)
/-- who is there, k of the doubtful ones being set by s -/
def TST (B : Bk) (T : Nat → Bool) (s k : Nat) : Prop := (∀ i, i < cm_ B → ¬ i ∈ lsT B 6 → T i = th_ B i) ∧ ∀ j, j < k → T ((lsT B 6).getD j 0) = !s.testBit j
theorem ls_in {S : St} {k : Nat} (hk : k < (lsT (bk S) 6).length) : (lsT (bk S) 6).getD k 0 < 6 ∧ (lsT (bk S) 6).getD k 0 < cm_ (bk S) ∧ th_ (bk S) ((lsT (bk S) 6).getD k 0) = true ∧ (lsT (bk S) 6).getD k 0 ∈ lsT (bk S) 6 ∧ ∀ j, j < k → (lsT (bk S) 6).getD j 0 ≠ (lsT (bk S) 6).getD k 0 := by
  have hm : (lsT (bk S) 6).getD k 0 ∈ lsT (bk S) 6 := getD_in hk
  have h6 := lsT_len (bk S) 6
  rw [lsT_D] at *
  have h := ld_6 (dS S) (dS_lt S) k (by omega) hk
  have ht := h.2.1
  rw [dS_tb h.1] at ht
  unfold thN at ht
  simp only [Bool.and_eq_true, decide_eq_true_eq] at ht
  exact ⟨h.1, ht.1, ht.2, hm, h.2.2⟩
theorem TST.le {S : St} {T : Nat → Bool} {s : Nat} (h : TST (bk S) T s (lsT (bk S) 6).length) : TLE (bk S) T := by
  intro i hi ht
  by_cases hm : i ∈ lsT (bk S) 6
  · obtain ⟨k, hk, rfl⟩ := List.mem_iff_getElem.mp hm
    have := (ls_in hk).2.2.1
    rw [List.getD_eq_getElem?_getD, List.getElem?_eq_getElem hk] at this
    exact this
  · rw [← h.1 i hi hm]; exact ht
theorem TST.w {S : St} (hV : VB (bk S)) {T : Nat → Bool} {s : Nat} (h : TST (bk S) T s (lsT (bk S) 6).length) (hs : s < 2 ^ (lsD (dS S)).length) : wT (bk S) T = wg S (dep (lsD (dS S)) s) := by
  have hd := dS_lt S
  have h6 := (ld_5 (dS S) hd).2
  have h64 := pow_64 _ h6
  refine mkn_congr (fun i hi => ?_)
  show (decide (i < cm_ (bk S)) && T i) = (thN (bk S) i && !(dep (lsD (dS S)) s).testBit i)
  unfold thN
  by_cases hc : i < cm_ (bk S)
  · rw [decide_eq_true hc, Bool.true_and, Bool.true_and]
    by_cases hm : i ∈ lsT (bk S) 6
    · obtain ⟨k, hk, rfl⟩ := List.mem_iff_getElem.mp hm
      have e : (lsT (bk S) 6)[k] = (lsT (bk S) 6).getD k 0 := by rw [List.getD_eq_getElem?_getD, List.getElem?_eq_getElem hk]; rfl
      rw [e, (ls_in hk).2.2.1, h.2 k hk, Bool.true_and]
      rw [lsT_D] at hk ⊢
      rw [ld_3 (dS S) hd s (by omega) hs k (by omega) hk]
    · rw [h.1 i hc hm]
      rw [lsT_D] at hm
      have h4 := ld_4 (dS S) hd s (by omega) hs i hi
      rw [show (lsD (dS S)).contains i = false from Bool.eq_false_iff.mpr (fun q => hm (List.contains_iff_mem.mp q)), Bool.false_or] at h4
      rw [h4]; simp
  · rw [decide_eq_false hc]; rfl
theorem TST.up {S : St} {T : Nat → Bool} {s k : Nat} {b : Bool} (h : TST (bk S) T s k) (hk : k < (lsT (bk S) 6).length) (hb : b = !s.testBit k) : TST (bk S) (fun i => if i = (lsT (bk S) 6).getD k 0 then b else T i) s (k + 1) := by
  have hl := ls_in hk
  refine ⟨fun i hi hm => ?_, fun j hj => ?_⟩
  · show (if i = (lsT (bk S) 6).getD k 0 then b else T i) = _
    rw [if_neg (fun e => hm (by rw [e]; exact hl.2.2.2.1))]
    exact h.1 i hi hm
  · show (if (lsT (bk S) 6).getD j 0 = (lsT (bk S) 6).getD k 0 then b else T ((lsT (bk S) 6).getD j 0)) = _
    by_cases e : j = k
    · subst e; rw [if_pos rfl, hb]
    · rw [if_neg (hl.2.2.2.2 j (by omega))]
      exact h.2 j (by omega)
theorem TST.any {S : St} {T : Nat → Bool} {s s' k : Nat} (h : TST (bk S) T s k) : TST (bk S) T s' 0 := ⟨h.1, fun j hj => absurd hj (Nat.not_lt_zero _)⟩
theorem TST.th {S : St} {T : Nat → Bool} (h : TST (bk S) T 0 (lsT (bk S) 6).length) : ∀ i, i < cm_ (bk S) → T i = th_ (bk S) i := by
  intro i hi
  by_cases hm : i ∈ lsT (bk S) 6
  · obtain ⟨k, hk, rfl⟩ := List.mem_iff_getElem.mp hm
    have e : (lsT (bk S) 6)[k] = (lsT (bk S) 6).getD k 0 := by rw [List.getD_eq_getElem?_getD, List.getElem?_eq_getElem hk]; rfl
    rw [e, (ls_in hk).2.2.1, h.2 k hk, Nat.zero_testBit]; rfl
  · exact h.1 i hi hm
theorem pow_pos' {t n : Nat} (h : 2 ≤ t) : 0 < t ^ n := Nat.pow_pos (by omega)
theorem pow_t {t : Nat} (h : t ≤ 20) {n : Nat} (hn : n ≤ 6) : t ^ n ≤ 64000000 := Nat.le_trans (Nat.pow_le_pow_left h n) (Nat.le_trans (Nat.pow_le_pow_right (by decide) hn) (by decide))
theorem zc_le (s : Nat) : ∀ k, zc s k ≤ k
  | 0 => Nat.le_refl _
  | k + 1 => by have := zc_le s k; show zc s k + _ ≤ k + 1; split <;> omega
theorem ltF_le {S : St} {p v t : Nat} (ht : 2 ≤ t ∧ t ≤ 20) (s : Nat) : ltF S p v t s ≤ 64000000 := by
  unfold ltF
  split
  · exact pow_t (by omega) (Nat.le_trans (zc_le _ _) (ld_5 (dS S) (dS_lt S)).2)
  · exact Nat.zero_le _
theorem X_fg15 {d k pc : Nat} {j : MI} {a0 a1 a2 a3 a4 a5 a6 a7 a8 a9 a10 a11 o1 o2 o3 : Option Value} {st : List Value} {σ : Wd} {Q : List Value → Wd → Prop} (hX : X d k j pc [a0, a1, a2, a3, a4, a5, a6, a7, a8, a9, a10, a11, none, none, none] st σ Q) : X d k j pc [a0, a1, a2, a3, a4, a5, a6, a7, a8, a9, a10, a11, o1, o2, o3] st σ Q := by
  refine X_forget (fun i v h => ?_) hX
  match i, h with
  | 0, h => exact h
  | 1, h => exact h
  | 2, h => exact h
  | 3, h => exact h
  | 4, h => exact h
  | 5, h => exact h
  | 6, h => exact h
  | 7, h => exact h
  | 8, h => exact h
  | 9, h => exact h
  | 10, h => exact h
  | 11, h => exact h
  | 12, h => cases h
  | 13, h => cases h
  | 14, h => cases h
  | n + 15, h => cases h
theorem dX8_lost_0 : decode cX8_lost 0 = .ok (.aload_n 0, 1) := by decide +kernel
theorem dX8_lost_1 : decode cX8_lost 1 = .ok (.iload_n 1, 1) := by decide +kernel
theorem dX8_lost_2 : decode cX8_lost 2 = .ok (.iload_n 2, 1) := by decide +kernel
theorem dX8_lost_3 : decode cX8_lost 3 = .ok (.invokevirtual 311, 3) := by decide +kernel
theorem dX8_lost_6 : decode cX8_lost 6 = .ok (.istore 5, 2) := by decide +kernel
theorem dX8_lost_8 : decode cX8_lost 8 = .ok (.iload 5, 2) := by decide +kernel
theorem dX8_lost_10 : decode cX8_lost 10 = .ok (.ifCond .ne 17, 3) := by decide +kernel
theorem dX8_lost_13 : decode cX8_lost 13 = .ok (.iload 4, 2) := by decide +kernel
theorem dX8_lost_15 : decode cX8_lost 15 = .ok (.iconst 0, 1) := by decide +kernel
theorem dX8_lost_16 : decode cX8_lost 16 = .ok (.iconst 1, 1) := by decide +kernel
theorem dX8_lost_17 : decode cX8_lost 17 = .ok (.invokestatic 115, 3) := by decide +kernel
theorem dX8_lost_20 : decode cX8_lost 20 = .ok (.ifCond .ne 7, 3) := by decide +kernel
theorem dX8_lost_23 : decode cX8_lost 23 = .ok (.bipush (-2), 2) := by decide +kernel
theorem dX8_lost_25 : decode cX8_lost 25 = .ok (.istore 5, 2) := by decide +kernel
theorem dX8_lost_27 : decode cX8_lost 27 = .ok (.iload 5, 2) := by decide +kernel
theorem dX8_lost_29 : decode cX8_lost 29 = .ok (.ifCond .ne 12, 3) := by decide +kernel
theorem dX8_lost_32 : decode cX8_lost 32 = .ok (.iload_n 3, 1) := by decide +kernel
theorem dX8_lost_33 : decode cX8_lost 33 = .ok (.iconst 2, 1) := by decide +kernel
theorem dX8_lost_34 : decode cX8_lost 34 = .ok (.bipush 20, 2) := by decide +kernel
theorem dX8_lost_36 : decode cX8_lost 36 = .ok (.invokestatic 205, 3) := by decide +kernel
theorem dX8_lost_39 : decode cX8_lost 39 = .ok (.istore 5, 2) := by decide +kernel
theorem dX8_lost_41 : decode cX8_lost 41 = .ok (.iload 5, 2) := by decide +kernel
theorem dX8_lost_43 : decode cX8_lost 43 = .ok (.ifCond .eq 10, 3) := by decide +kernel
theorem dX8_lost_46 : decode cX8_lost 46 = .ok (.aload_n 0, 1) := by decide +kernel
theorem dX8_lost_47 : decode cX8_lost 47 = .ok (.iload 5, 2) := by decide +kernel
theorem dX8_lost_49 : decode cX8_lost 49 = .ok (.invokevirtual 367, 3) := by decide +kernel
theorem dX8_lost_52 : decode cX8_lost 52 = .ok (.lreturn, 1) := by decide +kernel
theorem dX8_lost_53 : decode cX8_lost 53 = .ok (.iconst 0, 1) := by decide +kernel
theorem dX8_lost_54 : decode cX8_lost 54 = .ok (.istore 6, 2) := by decide +kernel
theorem dX8_lost_56 : decode cX8_lost 56 = .ok (.iconst 0, 1) := by decide +kernel
theorem dX8_lost_57 : decode cX8_lost 57 = .ok (.istore 7, 2) := by decide +kernel
theorem dX8_lost_59 : decode cX8_lost 59 = .ok (.iload 7, 2) := by decide +kernel
theorem dX8_lost_61 : decode cX8_lost 61 = .ok (.bipush 6, 2) := by decide +kernel
theorem dX8_lost_63 : decode cX8_lost 63 = .ok (.if_icmp .ge 33, 3) := by decide +kernel
theorem dX8_lost_66 : decode cX8_lost 66 = .ok (.aload_n 0, 1) := by decide +kernel
theorem dX8_lost_67 : decode cX8_lost 67 = .ok (.iload 7, 2) := by decide +kernel
theorem dX8_lost_69 : decode cX8_lost 69 = .ok (.invokevirtual 254, 3) := by decide +kernel
theorem dX8_lost_72 : decode cX8_lost 72 = .ok (.ifCond .ne 6, 3) := by decide +kernel
theorem dX8_lost_75 : decode cX8_lost 75 = .ok (.goto 15, 3) := by decide +kernel
theorem dX8_lost_78 : decode cX8_lost 78 = .ok (.aload_n 0, 1) := by decide +kernel
theorem dX8_lost_79 : decode cX8_lost 79 = .ok (.getfield 103, 3) := by decide +kernel
theorem dX8_lost_82 : decode cX8_lost 82 = .ok (.iload 6, 2) := by decide +kernel
theorem dX8_lost_84 : decode cX8_lost 84 = .ok (.iload 7, 2) := by decide +kernel
theorem dX8_lost_86 : decode cX8_lost 86 = .ok (.iastore, 1) := by decide +kernel
theorem dX8_lost_87 : decode cX8_lost 87 = .ok (.iinc 6 1, 3) := by decide +kernel
theorem dX8_lost_90 : decode cX8_lost 90 = .ok (.iinc 7 1, 3) := by decide +kernel
theorem dX8_lost_93 : decode cX8_lost 93 = .ok (.goto (-34), 3) := by decide +kernel
theorem dX8_lost_96 : decode cX8_lost 96 = .ok (.lconst 0, 1) := by decide +kernel
theorem dX8_lost_97 : decode cX8_lost 97 = .ok (.lstore 7, 2) := by decide +kernel
theorem dX8_lost_99 : decode cX8_lost 99 = .ok (.lconst 1, 1) := by decide +kernel
theorem dX8_lost_100 : decode cX8_lost 100 = .ok (.lstore 9, 2) := by decide +kernel
theorem dX8_lost_102 : decode cX8_lost 102 = .ok (.iconst 0, 1) := by decide +kernel
theorem dX8_lost_103 : decode cX8_lost 103 = .ok (.istore 11, 2) := by decide +kernel
theorem dX8_lost_105 : decode cX8_lost 105 = .ok (.iload 11, 2) := by decide +kernel
theorem dX8_lost_107 : decode cX8_lost 107 = .ok (.iload 6, 2) := by decide +kernel
theorem dX8_lost_109 : decode cX8_lost 109 = .ok (.if_icmp .ge 16, 3) := by decide +kernel
theorem dX8_lost_112 : decode cX8_lost 112 = .ok (.lload 9, 2) := by decide +kernel
theorem dX8_lost_114 : decode cX8_lost 114 = .ok (.iload_n 3, 1) := by decide +kernel
theorem dX8_lost_115 : decode cX8_lost 115 = .ok (.i2l, 1) := by decide +kernel
theorem dX8_lost_116 : decode cX8_lost 116 = .ok (.lmul, 1) := by decide +kernel
theorem dX8_lost_117 : decode cX8_lost 117 = .ok (.lstore 9, 2) := by decide +kernel
theorem dX8_lost_119 : decode cX8_lost 119 = .ok (.iinc 11 1, 3) := by decide +kernel
theorem dX8_lost_122 : decode cX8_lost 122 = .ok (.goto (-17), 3) := by decide +kernel
theorem dX8_lost_125 : decode cX8_lost 125 = .ok (.iconst 0, 1) := by decide +kernel
theorem dX8_lost_126 : decode cX8_lost 126 = .ok (.istore 11, 2) := by decide +kernel
theorem dX8_lost_128 : decode cX8_lost 128 = .ok (.iload 11, 2) := by decide +kernel
theorem dX8_lost_130 : decode cX8_lost 130 = .ok (.iconst 1, 1) := by decide +kernel
theorem dX8_lost_131 : decode cX8_lost 131 = .ok (.iload 6, 2) := by decide +kernel
theorem dX8_lost_133 : decode cX8_lost 133 = .ok (.ishl, 1) := by decide +kernel
theorem dX8_lost_134 : decode cX8_lost 134 = .ok (.if_icmp .ge 98, 3) := by decide +kernel
theorem dX8_lost_137 : decode cX8_lost 137 = .ok (.lconst 1, 1) := by decide +kernel
theorem dX8_lost_138 : decode cX8_lost 138 = .ok (.lstore 12, 2) := by decide +kernel
theorem dX8_lost_140 : decode cX8_lost 140 = .ok (.iconst 0, 1) := by decide +kernel
theorem dX8_lost_141 : decode cX8_lost 141 = .ok (.istore 14, 2) := by decide +kernel
theorem dX8_lost_143 : decode cX8_lost 143 = .ok (.iload 14, 2) := by decide +kernel
theorem dX8_lost_145 : decode cX8_lost 145 = .ok (.iload 6, 2) := by decide +kernel
theorem dX8_lost_147 : decode cX8_lost 147 = .ok (.if_icmp .ge 59, 3) := by decide +kernel
theorem dX8_lost_150 : decode cX8_lost 150 = .ok (.aload_n 0, 1) := by decide +kernel
theorem dX8_lost_151 : decode cX8_lost 151 = .ok (.getfield 19, 3) := by decide +kernel
theorem dX8_lost_154 : decode cX8_lost 154 = .ok (.aload_n 0, 1) := by decide +kernel
theorem dX8_lost_155 : decode cX8_lost 155 = .ok (.getfield 103, 3) := by decide +kernel
theorem dX8_lost_158 : decode cX8_lost 158 = .ok (.iload 14, 2) := by decide +kernel
theorem dX8_lost_160 : decode cX8_lost 160 = .ok (.iaload, 1) := by decide +kernel
theorem dX8_lost_161 : decode cX8_lost 161 = .ok (.iload 11, 2) := by decide +kernel
theorem dX8_lost_163 : decode cX8_lost 163 = .ok (.iload 14, 2) := by decide +kernel
theorem dX8_lost_165 : decode cX8_lost 165 = .ok (.invokestatic 123, 3) := by decide +kernel
theorem dX8_lost_168 : decode cX8_lost 168 = .ok (.ifCond .eq 7, 3) := by decide +kernel
theorem dX8_lost_171 : decode cX8_lost 171 = .ok (.iconst 0, 1) := by decide +kernel
theorem dX8_lost_172 : decode cX8_lost 172 = .ok (.goto 4, 3) := by decide +kernel
theorem dX8_lost_175 : decode cX8_lost 175 = .ok (.iconst 1, 1) := by decide +kernel
theorem dX8_lost_176 : decode cX8_lost 176 = .ok (.iastore, 1) := by decide +kernel
theorem dX8_lost_177 : decode cX8_lost 177 = .ok (.lload 12, 2) := by decide +kernel
theorem dX8_lost_179 : decode cX8_lost 179 = .ok (.iload 11, 2) := by decide +kernel
theorem dX8_lost_181 : decode cX8_lost 181 = .ok (.iload 14, 2) := by decide +kernel
theorem dX8_lost_183 : decode cX8_lost 183 = .ok (.invokestatic 123, 3) := by decide +kernel
theorem dX8_lost_186 : decode cX8_lost 186 = .ok (.ifCond .eq 7, 3) := by decide +kernel
theorem dX8_lost_189 : decode cX8_lost 189 = .ok (.lconst 1, 1) := by decide +kernel
theorem dX8_lost_190 : decode cX8_lost 190 = .ok (.goto 7, 3) := by decide +kernel
theorem dX8_lost_193 : decode cX8_lost 193 = .ok (.iload_n 3, 1) := by decide +kernel
theorem dX8_lost_194 : decode cX8_lost 194 = .ok (.iconst 1, 1) := by decide +kernel
theorem dX8_lost_195 : decode cX8_lost 195 = .ok (.isub, 1) := by decide +kernel
theorem dX8_lost_196 : decode cX8_lost 196 = .ok (.i2l, 1) := by decide +kernel
theorem dX8_lost_197 : decode cX8_lost 197 = .ok (.lmul, 1) := by decide +kernel
theorem dX8_lost_198 : decode cX8_lost 198 = .ok (.lstore 12, 2) := by decide +kernel
theorem dX8_lost_200 : decode cX8_lost 200 = .ok (.iinc 14 1, 3) := by decide +kernel
theorem dX8_lost_203 : decode cX8_lost 203 = .ok (.goto (-60), 3) := by decide +kernel
theorem dX8_lost_206 : decode cX8_lost 206 = .ok (.lload 7, 2) := by decide +kernel
theorem dX8_lost_208 : decode cX8_lost 208 = .ok (.aload_n 0, 1) := by decide +kernel
theorem dX8_lost_209 : decode cX8_lost 209 = .ok (.iload_n 1, 1) := by decide +kernel
theorem dX8_lost_210 : decode cX8_lost 210 = .ok (.iload_n 2, 1) := by decide +kernel
theorem dX8_lost_211 : decode cX8_lost 211 = .ok (.invokevirtual 314, 3) := by decide +kernel
theorem dX8_lost_214 : decode cX8_lost 214 = .ok (.ifCond .lt 8, 3) := by decide +kernel
theorem dX8_lost_217 : decode cX8_lost 217 = .ok (.lload 12, 2) := by decide +kernel
theorem dX8_lost_219 : decode cX8_lost 219 = .ok (.goto 4, 3) := by decide +kernel
theorem dX8_lost_222 : decode cX8_lost 222 = .ok (.lconst 0, 1) := by decide +kernel
theorem dX8_lost_223 : decode cX8_lost 223 = .ok (.ladd, 1) := by decide +kernel
theorem dX8_lost_224 : decode cX8_lost 224 = .ok (.lstore 7, 2) := by decide +kernel
theorem dX8_lost_226 : decode cX8_lost 226 = .ok (.iinc 11 1, 3) := by decide +kernel
theorem dX8_lost_229 : decode cX8_lost 229 = .ok (.goto (-101), 3) := by decide +kernel
theorem dX8_lost_232 : decode cX8_lost 232 = .ok (.iconst 0, 1) := by decide +kernel
theorem dX8_lost_233 : decode cX8_lost 233 = .ok (.istore 11, 2) := by decide +kernel
theorem dX8_lost_235 : decode cX8_lost 235 = .ok (.iload 11, 2) := by decide +kernel
theorem dX8_lost_237 : decode cX8_lost 237 = .ok (.iload 6, 2) := by decide +kernel
theorem dX8_lost_239 : decode cX8_lost 239 = .ok (.if_icmp .ge 22, 3) := by decide +kernel
theorem dX8_lost_242 : decode cX8_lost 242 = .ok (.aload_n 0, 1) := by decide +kernel
theorem dX8_lost_243 : decode cX8_lost 243 = .ok (.getfield 19, 3) := by decide +kernel
theorem dX8_lost_246 : decode cX8_lost 246 = .ok (.aload_n 0, 1) := by decide +kernel
theorem dX8_lost_247 : decode cX8_lost 247 = .ok (.getfield 103, 3) := by decide +kernel
theorem dX8_lost_250 : decode cX8_lost 250 = .ok (.iload 11, 2) := by decide +kernel
theorem dX8_lost_252 : decode cX8_lost 252 = .ok (.iaload, 1) := by decide +kernel
theorem dX8_lost_253 : decode cX8_lost 253 = .ok (.iconst 1, 1) := by decide +kernel
theorem dX8_lost_254 : decode cX8_lost 254 = .ok (.iastore, 1) := by decide +kernel
theorem dX8_lost_255 : decode cX8_lost 255 = .ok (.iinc 11 1, 3) := by decide +kernel
theorem dX8_lost_258 : decode cX8_lost 258 = .ok (.goto (-23), 3) := by decide +kernel
theorem dX8_lost_261 : decode cX8_lost 261 = .ok (.lload 7, 2) := by decide +kernel
theorem dX8_lost_263 : decode cX8_lost 263 = .ok (.lload 9, 2) := by decide +kernel
theorem dX8_lost_265 : decode cX8_lost 265 = .ok (.iload 4, 2) := by decide +kernel
theorem dX8_lost_267 : decode cX8_lost 267 = .ok (.invokestatic 371, 3) := by decide +kernel
theorem dX8_lost_270 : decode cX8_lost 270 = .ok (.lreturn, 1) := by decide +kernel
theorem lp_lost_d {S : St} {D : Mem} {p v t : Nat} {w z5 : Int32} (hw : WF S) (hp : p < 341) (hv : v < 4) (ht : 2 ≤ t ∧ t ≤ 20) {up : Nat} (hup : up < 9223372036854775808) : ∀ (m : Nat) (k : Nat) (D1 : Mem) (T : Nat → Bool), k + m = (lsT (bk S) 6).length → INVT D1 S T (kd_ (bk S)) (fg_ (bk S)) → LSD (bk S) D1 → TST (bk S) T 0 k → Fr inR D D1 → X 6 138 j_X8_lost 235 [some (.ref 104), some (.int (nI p)), some (.int (nI v)), some (.int (nI t)), some (.int w), some (.int z5), some (.int (nI (lsT (bk S) 6).length)), some (.long (lN up)), none, some (.long (lN (t ^ (lsT (bk S) 6).length))), none, some (.int (nI k)), none, none, none] [] (138, P0, D1) (fun x σ => ∃ (u : Int64) (D' : Mem), x = [.long u] ∧ σ = wd D' ∧ CL2 D (pof (lN up) (lN (t ^ (lsT (bk S) 6).length)) w, S) u D') := by
  intro m
  induction m with
  | zero =>
    intro k D1 T hk h hL hT hf
    have h6 := lsT_len (bk S) 6
    refine X_iload (nx := 237) dX8_lost_235 rfl rfl ?_
    refine X_iload (nx := 239) dX8_lost_237 rfl rfl ?_
    refine X_icmp_ge (tgt := 261) (nx := 242) dX8_lost_239 rfl rfl (fun h239 => ?_) (fun h239 => ?_)
    · skip
      refine X_lload (nx := 263) dX8_lost_261 rfl rfl ?_
      refine X_lload (nx := 265) dX8_lost_263 rfl rfl ?_
      refine X_iload (nx := 267) dX8_lost_265 rfl rfl ?_
      refine Y_Sl3 (nx := 270) dX8_lost_267 rfl ml_RX8_371 kj_X8_partOf ks_X8_partOf (sp_X8_partOf hup (Nat.lt_of_le_of_lt (pow_t ht.2 h6) (by decide)) (pow_pos' ht.1)) (by first | decide | omega) (by exact Nat.le_of_ble_eq_true rfl) ?_
      exact Z_retl dX8_lost_270 rfl (by obtain rfl : k = (lsT (bk S) 6).length := (by omega); exact cl2_s rfl ⟨rb_Tc h.1 hT.th, h.2⟩ hf)
    · exact absurd h239 (fun q => q (nI_le (by omega) (by omega)))
  | succ m ih =>
    intro k D1 T hk h hL hT hf
    have h6 := lsT_len (bk S) 6
    refine X_iload (nx := 237) dX8_lost_235 rfl rfl ?_
    refine X_iload (nx := 239) dX8_lost_237 rfl rfl ?_
    refine X_icmp_ge (tgt := 261) (nx := 242) dX8_lost_239 rfl rfl (fun h239 => ?_) (fun h239 => ?_)
    · exact absurd h239 (nI_ge (by omega) (by omega))
    · skip
      refine X_aload_n (nx := 243) dX8_lost_242 rfl rfl rfl ?_
      refine M_getP (nx := 246) dX8_lost_243 rfl fl_RX8_19 rfl (by first | assumption | rfl | decide | omega) (by first | assumption | rfl | decide | omega) (by first | assumption | rfl | decide | omega) ?_
      refine X_aload_n (nx := 247) dX8_lost_246 rfl rfl rfl ?_
      refine M_getP (nx := 250) dX8_lost_247 rfl fl_RX8_103 rfl (by first | assumption | rfl | decide | omega) (by first | assumption | rfl | decide | omega) (by first | assumption | rfl | decide | omega) ?_
      refine X_iload (nx := 252) dX8_lost_250 rfl rfl ?_
      refine M_ld (a := 136) (L := 6) (nx := 253) dX8_lost_252 rfl (by decide) (by decide) rfl (by decide) (by omega) (hL k (by omega)) ?_
      refine X_iconst (v := 1) (nx := 254) dX8_lost_253 rfl rfl ?_
      refine M_st (a := 108) (L := 10) (nx := 255) dX8_lost_254 rfl (by decide) (by decide) rfl (by decide) (by have := (ls_in (S := S) (k := k) (by omega)).1; omega) ?_
      refine X_iinc (nx := 258) dX8_lost_255 rfl (by decide) rfl (by first | exact ii1 _ | rfl) rfl (st_s (st_s (st_s (st_s (st_s (st_s (st_s (st_s (st_s (st_s (st_s (st_0)))))))))))) ?_
      refine X_goto (tgt := 235) dX8_lost_258 rfl ?_
      have hx := inv_T (r := (lsT (bk S) 6).getD k 0) (b := true) h
      exact ih (k + 1) _ _ (by omega) hx.1 (fun j hj => by rw [up2_ne (by omega)]; exact hL j hj) (hT.up (by omega) (by rw [Nat.zero_testBit]; rfl)) (hf.tr hx.2)
theorem lp_lost_in {S : St} {D : Mem} {p v t : Nat} {w z5 : Int32} (hw : WF S) (ht : 2 ≤ t ∧ t ≤ 20) {s : Nat} {up : Int64} {dn : Int64} (hs : s < 64) {Q : List Value → Wd → Prop} (hQ : ∀ D2 T, INVT D2 S T (kd_ (bk S)) (fg_ (bk S)) → LSD (bk S) D2 → TST (bk S) T s (lsT (bk S) 6).length → Fr inR D D2 → X 6 138 j_X8_lost 206 [some (.ref 104), some (.int (nI p)), some (.int (nI v)), some (.int (nI t)), some (.int w), some (.int z5), some (.int (nI (lsT (bk S) 6).length)), some (.long up), none, some (.long dn), none, some (.int (nI s)), some (.long (lN ((t - 1) ^ zc s (lsT (bk S) 6).length))), none, some (.int (nI (lsT (bk S) 6).length))] [] (138, P0, D2) Q) : ∀ (m : Nat) (k : Nat) (D1 : Mem) (T : Nat → Bool), k + m = (lsT (bk S) 6).length → INVT D1 S T (kd_ (bk S)) (fg_ (bk S)) → LSD (bk S) D1 → TST (bk S) T s k → Fr inR D D1 → X 6 138 j_X8_lost 143 [some (.ref 104), some (.int (nI p)), some (.int (nI v)), some (.int (nI t)), some (.int w), some (.int z5), some (.int (nI (lsT (bk S) 6).length)), some (.long up), none, some (.long dn), none, some (.int (nI s)), some (.long (lN ((t - 1) ^ zc s k))), none, some (.int (nI k))] [] (138, P0, D1) (Q) := by
  intro m
  induction m with
  | zero =>
    intro k D1 T hk h hL hT hf
    have h6 := lsT_len (bk S) 6
    refine X_iload (nx := 145) dX8_lost_143 rfl rfl ?_
    refine X_iload (nx := 147) dX8_lost_145 rfl rfl ?_
    refine X_icmp_ge (tgt := 206) (nx := 150) dX8_lost_147 rfl rfl (fun h147 => ?_) (fun h147 => ?_)
    · skip
      obtain rfl : k = (lsT (bk S) 6).length := (by omega)
      exact hQ D1 T h hL hT hf
    · exact absurd h147 (fun q => q (nI_le (by omega) (by omega)))
  | succ m ih =>
    intro k D1 T hk h hL hT hf
    have h6 := lsT_len (bk S) 6
    refine X_iload (nx := 145) dX8_lost_143 rfl rfl ?_
    refine X_iload (nx := 147) dX8_lost_145 rfl rfl ?_
    refine X_icmp_ge (tgt := 206) (nx := 150) dX8_lost_147 rfl rfl (fun h147 => ?_) (fun h147 => ?_)
    · exact absurd h147 (nI_ge (by omega) (by omega))
    · skip
      refine X_aload_n (nx := 151) dX8_lost_150 rfl rfl rfl ?_
      refine M_getP (nx := 154) dX8_lost_151 rfl fl_RX8_19 rfl (by first | assumption | rfl | decide | omega) (by first | assumption | rfl | decide | omega) (by first | assumption | rfl | decide | omega) ?_
      refine X_aload_n (nx := 155) dX8_lost_154 rfl rfl rfl ?_
      refine M_getP (nx := 158) dX8_lost_155 rfl fl_RX8_103 rfl (by first | assumption | rfl | decide | omega) (by first | assumption | rfl | decide | omega) (by first | assumption | rfl | decide | omega) ?_
      refine X_iload (nx := 160) dX8_lost_158 rfl rfl ?_
      refine M_ld (a := 136) (L := 6) (nx := 161) dX8_lost_160 rfl (by decide) (by decide) rfl (by decide) (by omega) (hL k (by omega)) ?_
      refine X_iload (nx := 163) dX8_lost_161 rfl rfl ?_
      refine X_iload (nx := 165) dX8_lost_163 rfl rfl ?_
      refine Y_Si2 (nx := 168) dX8_lost_165 rfl ml_RX8_123 kj_X8_has ks_X8_has (sp_X8_has rfl (by omega) rfl (by omega)) (by first | decide | omega) (by exact Nat.le_of_ble_eq_true rfl) ?_
      refine X_if_eq (tgt := 175) (nx := 171) dX8_lost_168 rfl rfl (fun h168 => ?_) (fun h168 => ?_)
      · skip
        have e168 := b2i_f.mp h168
        refine X_iconst (v := 1) (nx := 176) dX8_lost_175 rfl rfl ?_
        refine M_st (a := 108) (L := 10) (nx := 177) dX8_lost_176 rfl (by decide) (by decide) rfl (by decide) (by have := (ls_in (S := S) (k := k) (by omega)).1; omega) ?_
        refine X_lload (nx := 179) dX8_lost_177 rfl rfl ?_
        refine X_iload (nx := 181) dX8_lost_179 rfl rfl ?_
        refine X_iload (nx := 183) dX8_lost_181 rfl rfl ?_
        refine Y_Si2 (nx := 186) dX8_lost_183 rfl ml_RX8_123 kj_X8_has ks_X8_has (sp_X8_has rfl (by omega) rfl (by omega)) (by first | decide | omega) (by exact Nat.le_of_ble_eq_true rfl) ?_
        refine X_if_eq (tgt := 193) (nx := 189) dX8_lost_186 rfl rfl (fun h186 => ?_) (fun h186 => ?_)
        · skip
          have e186 := b2i_f.mp h186
          refine X_iload_n (nx := 194) dX8_lost_193 rfl rfl rfl ?_
          refine X_iconst (v := nI 1) (nx := 195) dX8_lost_194 rfl rfl ?_
          refine X_isub (nx := 196) dX8_lost_195 rfl ?_
          refine X_top (sub_nI (by omega)) ?_
          refine X_i2l (nx := 197) dX8_lost_196 rfl ?_
          rw [nI_l (show t - 1 < 2 ^ 31 by omega)]
          refine X_lmul (nx := 198) dX8_lost_197 rfl ?_
          refine X_lstore (i := 12) (nx := 200) dX8_lost_198 rfl (by decide) rfl ((congrArg (fun z => List.set z (12 + 1) none) (st_s (st_s (st_s (st_s (st_s (st_s (st_s (st_s (st_s (st_s (st_s (st_s (st_0)))))))))))))).trans (st_s (st_s (st_s (st_s (st_s (st_s (st_s (st_s (st_s (st_s (st_s (st_s (st_s (st_0))))))))))))))) ?_
          refine X_iinc (nx := 203) dX8_lost_200 rfl (by decide) rfl (by first | exact ii1 _ | rfl) rfl (st_s (st_s (st_s (st_s (st_s (st_s (st_s (st_s (st_s (st_s (st_s (st_s (st_s (st_s (st_0))))))))))))))) ?_
          refine X_goto (tgt := 143) dX8_lost_203 rfl ?_
          first
          | exact absurd (e168.symm.trans e186) (by decide)
          | (have hx := inv_T (r := (lsT (bk S) 6).getD k 0) (b := true) h
             rw [lN_mul, show (t - 1) ^ zc s k * (t - 1) = (t - 1) ^ zc s (k + 1) from by rw [show zc s (k + 1) = zc s k + 1 from by show zc s k + (if s.testBit k = true then 0 else 1) = _; rw [e168]; rfl, Nat.pow_succ]]
             exact ih (k + 1) _ _ (by omega) hx.1 (fun j hj => by rw [up2_ne (by omega)]; exact hL j hj) (hT.up (by omega) (by rw [e168]; rfl)) (hf.tr hx.2))
          | (have hx := inv_T (r := (lsT (bk S) 6).getD k 0) (b := false) h
             rw [show lN ((t - 1) ^ zc s k) * 1 = lN ((t - 1) ^ zc s (k + 1)) from by rw [Int64.mul_one, show zc s (k + 1) = zc s k + 0 from by show zc s k + (if s.testBit k = true then 0 else 1) = _; rw [e168]; rfl, Nat.add_zero]]
             exact ih (k + 1) _ _ (by omega) hx.1 (fun j hj => by rw [up2_ne (by omega)]; exact hL j hj) (hT.up (by omega) (by rw [e168]; rfl)) (hf.tr hx.2))
        · skip
          have e186 := b2i_t.mp h186
          refine X_lconst (v := 1) (nx := 190) dX8_lost_189 rfl rfl ?_
          refine X_goto (tgt := 197) dX8_lost_190 rfl ?_
          refine X_lmul (nx := 198) dX8_lost_197 rfl ?_
          refine X_lstore (i := 12) (nx := 200) dX8_lost_198 rfl (by decide) rfl ((congrArg (fun z => List.set z (12 + 1) none) (st_s (st_s (st_s (st_s (st_s (st_s (st_s (st_s (st_s (st_s (st_s (st_s (st_0)))))))))))))).trans (st_s (st_s (st_s (st_s (st_s (st_s (st_s (st_s (st_s (st_s (st_s (st_s (st_s (st_0))))))))))))))) ?_
          refine X_iinc (nx := 203) dX8_lost_200 rfl (by decide) rfl (by first | exact ii1 _ | rfl) rfl (st_s (st_s (st_s (st_s (st_s (st_s (st_s (st_s (st_s (st_s (st_s (st_s (st_s (st_s (st_0))))))))))))))) ?_
          refine X_goto (tgt := 143) dX8_lost_203 rfl ?_
          first
          | exact absurd (e168.symm.trans e186) (by decide)
          | (have hx := inv_T (r := (lsT (bk S) 6).getD k 0) (b := true) h
             rw [lN_mul, show (t - 1) ^ zc s k * (t - 1) = (t - 1) ^ zc s (k + 1) from by rw [show zc s (k + 1) = zc s k + 1 from by show zc s k + (if s.testBit k = true then 0 else 1) = _; rw [e168]; rfl, Nat.pow_succ]]
             exact ih (k + 1) _ _ (by omega) hx.1 (fun j hj => by rw [up2_ne (by omega)]; exact hL j hj) (hT.up (by omega) (by rw [e168]; rfl)) (hf.tr hx.2))
          | (have hx := inv_T (r := (lsT (bk S) 6).getD k 0) (b := false) h
             rw [show lN ((t - 1) ^ zc s k) * 1 = lN ((t - 1) ^ zc s (k + 1)) from by rw [Int64.mul_one, show zc s (k + 1) = zc s k + 0 from by show zc s k + (if s.testBit k = true then 0 else 1) = _; rw [e168]; rfl, Nat.add_zero]]
             exact ih (k + 1) _ _ (by omega) hx.1 (fun j hj => by rw [up2_ne (by omega)]; exact hL j hj) (hT.up (by omega) (by rw [e168]; rfl)) (hf.tr hx.2))
      · skip
        have e168 := b2i_t.mp h168
        refine X_iconst (v := 0) (nx := 172) dX8_lost_171 rfl rfl ?_
        refine X_goto (tgt := 176) dX8_lost_172 rfl ?_
        refine M_st (a := 108) (L := 10) (nx := 177) dX8_lost_176 rfl (by decide) (by decide) rfl (by decide) (by have := (ls_in (S := S) (k := k) (by omega)).1; omega) ?_
        refine X_lload (nx := 179) dX8_lost_177 rfl rfl ?_
        refine X_iload (nx := 181) dX8_lost_179 rfl rfl ?_
        refine X_iload (nx := 183) dX8_lost_181 rfl rfl ?_
        refine Y_Si2 (nx := 186) dX8_lost_183 rfl ml_RX8_123 kj_X8_has ks_X8_has (sp_X8_has rfl (by omega) rfl (by omega)) (by first | decide | omega) (by exact Nat.le_of_ble_eq_true rfl) ?_
        refine X_if_eq (tgt := 193) (nx := 189) dX8_lost_186 rfl rfl (fun h186 => ?_) (fun h186 => ?_)
        · skip
          have e186 := b2i_f.mp h186
          refine X_iload_n (nx := 194) dX8_lost_193 rfl rfl rfl ?_
          refine X_iconst (v := nI 1) (nx := 195) dX8_lost_194 rfl rfl ?_
          refine X_isub (nx := 196) dX8_lost_195 rfl ?_
          refine X_top (sub_nI (by omega)) ?_
          refine X_i2l (nx := 197) dX8_lost_196 rfl ?_
          rw [nI_l (show t - 1 < 2 ^ 31 by omega)]
          refine X_lmul (nx := 198) dX8_lost_197 rfl ?_
          refine X_lstore (i := 12) (nx := 200) dX8_lost_198 rfl (by decide) rfl ((congrArg (fun z => List.set z (12 + 1) none) (st_s (st_s (st_s (st_s (st_s (st_s (st_s (st_s (st_s (st_s (st_s (st_s (st_0)))))))))))))).trans (st_s (st_s (st_s (st_s (st_s (st_s (st_s (st_s (st_s (st_s (st_s (st_s (st_s (st_0))))))))))))))) ?_
          refine X_iinc (nx := 203) dX8_lost_200 rfl (by decide) rfl (by first | exact ii1 _ | rfl) rfl (st_s (st_s (st_s (st_s (st_s (st_s (st_s (st_s (st_s (st_s (st_s (st_s (st_s (st_s (st_0))))))))))))))) ?_
          refine X_goto (tgt := 143) dX8_lost_203 rfl ?_
          first
          | exact absurd (e168.symm.trans e186) (by decide)
          | (have hx := inv_T (r := (lsT (bk S) 6).getD k 0) (b := true) h
             rw [lN_mul, show (t - 1) ^ zc s k * (t - 1) = (t - 1) ^ zc s (k + 1) from by rw [show zc s (k + 1) = zc s k + 1 from by show zc s k + (if s.testBit k = true then 0 else 1) = _; rw [e168]; rfl, Nat.pow_succ]]
             exact ih (k + 1) _ _ (by omega) hx.1 (fun j hj => by rw [up2_ne (by omega)]; exact hL j hj) (hT.up (by omega) (by rw [e168]; rfl)) (hf.tr hx.2))
          | (have hx := inv_T (r := (lsT (bk S) 6).getD k 0) (b := false) h
             rw [show lN ((t - 1) ^ zc s k) * 1 = lN ((t - 1) ^ zc s (k + 1)) from by rw [Int64.mul_one, show zc s (k + 1) = zc s k + 0 from by show zc s k + (if s.testBit k = true then 0 else 1) = _; rw [e168]; rfl, Nat.add_zero]]
             exact ih (k + 1) _ _ (by omega) hx.1 (fun j hj => by rw [up2_ne (by omega)]; exact hL j hj) (hT.up (by omega) (by rw [e168]; rfl)) (hf.tr hx.2))
        · skip
          have e186 := b2i_t.mp h186
          refine X_lconst (v := 1) (nx := 190) dX8_lost_189 rfl rfl ?_
          refine X_goto (tgt := 197) dX8_lost_190 rfl ?_
          refine X_lmul (nx := 198) dX8_lost_197 rfl ?_
          refine X_lstore (i := 12) (nx := 200) dX8_lost_198 rfl (by decide) rfl ((congrArg (fun z => List.set z (12 + 1) none) (st_s (st_s (st_s (st_s (st_s (st_s (st_s (st_s (st_s (st_s (st_s (st_s (st_0)))))))))))))).trans (st_s (st_s (st_s (st_s (st_s (st_s (st_s (st_s (st_s (st_s (st_s (st_s (st_s (st_0))))))))))))))) ?_
          refine X_iinc (nx := 203) dX8_lost_200 rfl (by decide) rfl (by first | exact ii1 _ | rfl) rfl (st_s (st_s (st_s (st_s (st_s (st_s (st_s (st_s (st_s (st_s (st_s (st_s (st_s (st_s (st_0))))))))))))))) ?_
          refine X_goto (tgt := 143) dX8_lost_203 rfl ?_
          first
          | exact absurd (e168.symm.trans e186) (by decide)
          | (have hx := inv_T (r := (lsT (bk S) 6).getD k 0) (b := true) h
             rw [lN_mul, show (t - 1) ^ zc s k * (t - 1) = (t - 1) ^ zc s (k + 1) from by rw [show zc s (k + 1) = zc s k + 1 from by show zc s k + (if s.testBit k = true then 0 else 1) = _; rw [e168]; rfl, Nat.pow_succ]]
             exact ih (k + 1) _ _ (by omega) hx.1 (fun j hj => by rw [up2_ne (by omega)]; exact hL j hj) (hT.up (by omega) (by rw [e168]; rfl)) (hf.tr hx.2))
          | (have hx := inv_T (r := (lsT (bk S) 6).getD k 0) (b := false) h
             rw [show lN ((t - 1) ^ zc s k) * 1 = lN ((t - 1) ^ zc s (k + 1)) from by rw [Int64.mul_one, show zc s (k + 1) = zc s k + 0 from by show zc s k + (if s.testBit k = true then 0 else 1) = _; rw [e168]; rfl, Nat.add_zero]]
             exact ih (k + 1) _ _ (by omega) hx.1 (fun j hj => by rw [up2_ne (by omega)]; exact hL j hj) (hT.up (by omega) (by rw [e168]; rfl)) (hf.tr hx.2))
theorem lp_lost_c {S : St} {D : Mem} {p v t : Nat} {w z5 : Int32} (hw : WF S) (hp : p < 341) (hv : v < 4) (ht : 2 ≤ t ∧ t ≤ 20) : ∀ (m : Nat) (s : Nat) (D1 : Mem) (T : Nat → Bool) (s0 k0 : Nat), s + m = 2 ^ (lsT (bk S) 6).length → INVT D1 S T (kd_ (bk S)) (fg_ (bk S)) → LSD (bk S) D1 → TST (bk S) T s0 k0 → Fr inR D D1 → X 6 138 j_X8_lost 128 [some (.ref 104), some (.int (nI p)), some (.int (nI v)), some (.int (nI t)), some (.int w), some (.int z5), some (.int (nI (lsT (bk S) 6).length)), some (.long (lN (sumN (ltF S p v t) s))), none, some (.long (lN (t ^ (lsT (bk S) 6).length))), none, some (.int (nI s)), none, none, none] [] (138, P0, D1) (fun x σ => ∃ (u : Int64) (D' : Mem), x = [.long u] ∧ σ = wd D' ∧ CL2 D (pof (lN (sumN (ltF S p v t) (2 ^ (lsT (bk S) 6).length))) (lN (t ^ (lsT (bk S) 6).length)) w, S) u D') := by
  intro m
  induction m with
  | zero =>
    intro s D1 T s0 k0 hk h hL hT hf
    have h6 := lsT_len (bk S) 6
    have h64 := pow_64 _ h6
    refine X_iload (nx := 130) dX8_lost_128 rfl rfl ?_
    refine X_iconst (v := 1) (nx := 131) dX8_lost_130 rfl rfl ?_
    refine X_iload (nx := 133) dX8_lost_131 rfl rfl ?_
    refine X_ishl (nx := 134) dX8_lost_133 rfl ?_
    refine X_top (one_shl _ (by omega)) ?_
    refine X_icmp_ge (tgt := 232) (nx := 137) dX8_lost_134 rfl rfl (fun h134 => ?_) (fun h134 => ?_)
    · skip
      refine X_iconst (v := nI 0) (nx := 233) dX8_lost_232 rfl rfl ?_
      refine X_istore (i := 11) (nx := 235) dX8_lost_233 rfl (by decide) rfl (st_s (st_s (st_s (st_s (st_s (st_s (st_s (st_s (st_s (st_s (st_s (st_0)))))))))))) ?_
      obtain rfl : s = 2 ^ (lsT (bk S) 6).length := (by omega)
      have hsl := sumN_le (f := ltF S p v t) (c := 64000000) (fun k => ltF_le ht k) (2 ^ (lsT (bk S) 6).length)
      have hsl2 : 2 ^ (lsT (bk S) 6).length * 64000000 ≤ 64 * 64000000 := Nat.mul_le_mul_right _ h64
      exact lp_lost_d hw hp hv ht (by omega) (lsT (bk S) 6).length 0 D1 T (Nat.zero_add _) h hL hT.any hf
    · exact absurd h134 (fun q => q (nI_le (by omega) (by omega)))
  | succ m ih =>
    intro s D1 T s0 k0 hk h hL hT hf
    have h6 := lsT_len (bk S) 6
    have h64 := pow_64 _ h6
    refine X_iload (nx := 130) dX8_lost_128 rfl rfl ?_
    refine X_iconst (v := 1) (nx := 131) dX8_lost_130 rfl rfl ?_
    refine X_iload (nx := 133) dX8_lost_131 rfl rfl ?_
    refine X_ishl (nx := 134) dX8_lost_133 rfl ?_
    refine X_top (one_shl _ (by omega)) ?_
    refine X_icmp_ge (tgt := 232) (nx := 137) dX8_lost_134 rfl rfl (fun h134 => ?_) (fun h134 => ?_)
    · exact absurd h134 (nI_ge (by omega) (by omega))
    · skip
      refine X_lconst (v := 1) (nx := 138) dX8_lost_137 rfl rfl ?_
      refine X_lstore (i := 12) (nx := 140) dX8_lost_138 rfl (by decide) rfl ((congrArg (fun z => List.set z (12 + 1) none) (st_s (st_s (st_s (st_s (st_s (st_s (st_s (st_s (st_s (st_s (st_s (st_s (st_0)))))))))))))).trans (st_s (st_s (st_s (st_s (st_s (st_s (st_s (st_s (st_s (st_s (st_s (st_s (st_s (st_0))))))))))))))) ?_
      refine X_iconst (v := nI 0) (nx := 141) dX8_lost_140 rfl rfl ?_
      refine X_istore (i := 14) (nx := 143) dX8_lost_141 rfl (by decide) rfl (st_s (st_s (st_s (st_s (st_s (st_s (st_s (st_s (st_s (st_s (st_s (st_s (st_s (st_s (st_0))))))))))))))) ?_
      refine lp_lost_in hw ht (by omega) (fun D2 T2 h2 hL2 hT2 hf2 => ?_) (lsT (bk S) 6).length 0 D1 T (Nat.zero_add _) h hL hT.any hf
      refine X_lload (nx := 208) dX8_lost_206 rfl rfl ?_
      refine X_aload_n (nx := 209) dX8_lost_208 rfl rfl rfl ?_
      refine X_iload_n (nx := 210) dX8_lost_209 rfl rfl rfl ?_
      refine X_iload_n (nx := 211) dX8_lost_210 rfl rfl rfl ?_
      refine Z_Vi2 (nx := 214) dX8_lost_211 rfl ml_RX8_314 kj_X8_matchOf kv_X8_matchOf (sp_X8_matchOf h2.1 hw.1 hw.1.1 hT2.le rfl hp rfl hv) (by first | assumption | rfl | decide | omega) (by first | assumption | rfl | decide | omega) (by decide) rfl (by first | decide | omega) (by exact Nat.le_of_ble_eq_true rfl) (fun u211 D211 g211 => ?_)
      have hi3 := br_inv h2 hw g211
      have hwt := hT2.w hw.1 (s := s) (by rw [← lsT_D]; omega)
      refine X_if_lt (tgt := 222) (nx := 217) dX8_lost_214 rfl rfl (fun h214 => ?_) (fun h214 => ?_)
      · skip
        have hz : ltF S p v t s = 0 := if_neg (by have e := mo_f g211 h214; rw [hwt] at e; rw [e]; decide)
        refine X_lconst (v := 0) (nx := 223) dX8_lost_222 rfl rfl ?_
        refine X_ladd (nx := 224) dX8_lost_223 rfl ?_
        refine X_lstore (i := 7) (nx := 226) dX8_lost_224 rfl (by decide) rfl ((congrArg (fun z => List.set z (7 + 1) none) (st_s (st_s (st_s (st_s (st_s (st_s (st_s (st_0))))))))).trans (st_s (st_s (st_s (st_s (st_s (st_s (st_s (st_s (st_0)))))))))) ?_
        refine X_iinc (nx := 229) dX8_lost_226 rfl (by decide) rfl (by first | exact ii1 _ | rfl) rfl (st_s (st_s (st_s (st_s (st_s (st_s (st_s (st_s (st_s (st_s (st_s (st_0)))))))))))) ?_
        refine X_goto (tgt := 128) dX8_lost_229 rfl ?_
        refine X_fg15 ?_
        have hL3 : LSD (bk S) D211 := fun j hj => by rw [g211.2.1 136 j (by unfold SM; omega)]; exact hL2 j hj
        have e9 := ih (s + 1) D211 T2 s (lsT (bk S) 6).length (by omega) hi3.1 hL3 hT2 (hf2.tr hi3.2)
        rw [show sumN (ltF S p v t) (s + 1) = sumN (ltF S p v t) s + ltF S p v t s from rfl, hz] at e9
        first
        | (rw [lN_add]; exact e9)
        | (rw [Int64.add_zero]; exact e9)
      · skip
        have hz : ltF S p v t s = (t - 1) ^ zc s (lsT (bk S) 6).length := (if_pos (by have e := mo_t g211 h214; rw [hwt] at e; exact e)).trans (by rw [lsT_D])
        refine X_lload (nx := 219) dX8_lost_217 rfl rfl ?_
        refine X_goto (tgt := 223) dX8_lost_219 rfl ?_
        refine X_ladd (nx := 224) dX8_lost_223 rfl ?_
        refine X_lstore (i := 7) (nx := 226) dX8_lost_224 rfl (by decide) rfl ((congrArg (fun z => List.set z (7 + 1) none) (st_s (st_s (st_s (st_s (st_s (st_s (st_s (st_0))))))))).trans (st_s (st_s (st_s (st_s (st_s (st_s (st_s (st_s (st_0)))))))))) ?_
        refine X_iinc (nx := 229) dX8_lost_226 rfl (by decide) rfl (by first | exact ii1 _ | rfl) rfl (st_s (st_s (st_s (st_s (st_s (st_s (st_s (st_s (st_s (st_s (st_s (st_0)))))))))))) ?_
        refine X_goto (tgt := 128) dX8_lost_229 rfl ?_
        refine X_fg15 ?_
        have hL3 : LSD (bk S) D211 := fun j hj => by rw [g211.2.1 136 j (by unfold SM; omega)]; exact hL2 j hj
        have e9 := ih (s + 1) D211 T2 s (lsT (bk S) 6).length (by omega) hi3.1 hL3 hT2 (hf2.tr hi3.2)
        rw [show sumN (ltF S p v t) (s + 1) = sumN (ltF S p v t) s + ltF S p v t s from rfl, hz] at e9
        first
        | (rw [lN_add]; exact e9)
        | (rw [Int64.add_zero]; exact e9)
theorem lp_lost_b {S : St} {D : Mem} {p v t : Nat} {w z5 : Int32} (hw : WF S) (ht : 2 ≤ t ∧ t ≤ 20) {Q : List Value → Wd → Prop} (hQ : X 6 138 j_X8_lost 125 [some (.ref 104), some (.int (nI p)), some (.int (nI v)), some (.int (nI t)), some (.int w), some (.int z5), some (.int (nI (lsT (bk S) 6).length)), some (.long 0), none, some (.long (lN (t ^ (lsT (bk S) 6).length))), none, some (.int (nI (lsT (bk S) 6).length)), none, none, none] [] (138, P0, D) Q) : ∀ (m : Nat) (k : Nat), k + m = (lsT (bk S) 6).length → X 6 138 j_X8_lost 105 [some (.ref 104), some (.int (nI p)), some (.int (nI v)), some (.int (nI t)), some (.int w), some (.int z5), some (.int (nI (lsT (bk S) 6).length)), some (.long 0), none, some (.long (lN (t ^ k))), none, some (.int (nI k)), none, none, none] [] (138, P0, D) (Q) := by
  intro m
  induction m with
  | zero =>
    intro k hk
    have h6 := lsT_len (bk S) 6
    refine X_iload (nx := 107) dX8_lost_105 rfl rfl ?_
    refine X_iload (nx := 109) dX8_lost_107 rfl rfl ?_
    refine X_icmp_ge (tgt := 125) (nx := 112) dX8_lost_109 rfl rfl (fun h109 => ?_) (fun h109 => ?_)
    · skip
      obtain rfl : k = (lsT (bk S) 6).length := (by omega)
      exact hQ
    · exact absurd h109 (fun q => q (nI_le (by omega) (by omega)))
  | succ m ih =>
    intro k hk
    have h6 := lsT_len (bk S) 6
    refine X_iload (nx := 107) dX8_lost_105 rfl rfl ?_
    refine X_iload (nx := 109) dX8_lost_107 rfl rfl ?_
    refine X_icmp_ge (tgt := 125) (nx := 112) dX8_lost_109 rfl rfl (fun h109 => ?_) (fun h109 => ?_)
    · exact absurd h109 (nI_ge (by omega) (by omega))
    · skip
      refine X_lload (nx := 114) dX8_lost_112 rfl rfl ?_
      refine X_iload_n (nx := 115) dX8_lost_114 rfl rfl rfl ?_
      refine X_i2l (nx := 116) dX8_lost_115 rfl ?_
      rw [nI_l (show t < 2 ^ 31 by omega)]
      refine X_lmul (nx := 117) dX8_lost_116 rfl ?_
      rw [lN_mul, ← Nat.pow_succ]
      refine X_lstore (i := 9) (nx := 119) dX8_lost_117 rfl (by decide) rfl ((congrArg (fun z => List.set z (9 + 1) none) (st_s (st_s (st_s (st_s (st_s (st_s (st_s (st_s (st_s (st_0))))))))))).trans (st_s (st_s (st_s (st_s (st_s (st_s (st_s (st_s (st_s (st_s (st_0)))))))))))) ?_
      refine X_iinc (nx := 122) dX8_lost_119 rfl (by decide) rfl (by first | exact ii1 _ | rfl) rfl (st_s (st_s (st_s (st_s (st_s (st_s (st_s (st_s (st_s (st_s (st_s (st_0)))))))))))) ?_
      refine X_goto (tgt := 105) dX8_lost_122 rfl ?_
      exact ih (k + 1) (by omega)
theorem X_fg15b {d k pc : Nat} {j : MI} {a0 a1 a2 a3 a4 a5 a6 o : Option Value} {st : List Value} {σ : Wd} {Q : List Value → Wd → Prop} (hX : X d k j pc [a0, a1, a2, a3, a4, a5, a6, none, none, none, none, none, none, none, none] st σ Q) : X d k j pc [a0, a1, a2, a3, a4, a5, a6, o, none, none, none, none, none, none, none] st σ Q := by
  refine X_forget (fun i v h => ?_) hX
  match i, h with
  | 0, h => exact h
  | 1, h => exact h
  | 2, h => exact h
  | 3, h => exact h
  | 4, h => exact h
  | 5, h => exact h
  | 6, h => exact h
  | 7, h => cases h
  | 8, h => cases h
  | 9, h => cases h
  | 10, h => cases h
  | 11, h => cases h
  | 12, h => cases h
  | 13, h => cases h
  | 14, h => cases h
  | n + 15, h => cases h
theorem lp_lost_a {S : St} {D : Mem} {p v t : Nat} {w z5 : Int32} (hw : WF S) {Q : List Value → Wd → Prop} (hQ : ∀ D2, INV2 D2 S → LSD (bk S) D2 → Fr inR D D2 → X 6 138 j_X8_lost 96 [some (.ref 104), some (.int (nI p)), some (.int (nI v)), some (.int (nI t)), some (.int w), some (.int z5), some (.int (nI (lsT (bk S) 6).length)), none, none, none, none, none, none, none, none] [] (138, P0, D2) Q) : ∀ (m : Nat) (i : Nat) (D1 : Mem), i + m = 6 → INV2 D1 S → (∀ k, k < (lsT (bk S) i).length → D1 136 k = nI ((lsT (bk S) i).getD k 0)) → Fr inR D D1 → X 6 138 j_X8_lost 59 [some (.ref 104), some (.int (nI p)), some (.int (nI v)), some (.int (nI t)), some (.int w), some (.int z5), some (.int (nI (lsT (bk S) i).length)), some (.int (nI i)), none, none, none, none, none, none, none] [] (138, P0, D1) (Q) := by
  intro m
  induction m with
  | zero =>
    intro i D1 hi h hL hf
    refine X_iload (nx := 61) dX8_lost_59 rfl rfl ?_
    refine X_bipush (v := nI 6) (nx := 63) dX8_lost_61 rfl rfl ?_
    refine X_icmp_ge (tgt := 96) (nx := 66) dX8_lost_63 rfl rfl (fun h63 => ?_) (fun h63 => ?_)
    · skip
      obtain rfl : i = 6 := (by omega)
      exact X_fg15b (hQ D1 h hL hf)
    · exact absurd h63 (fun q => q (nI_le (by omega) (by omega)))
  | succ m ih =>
    intro i D1 hi h hL hf
    refine X_iload (nx := 61) dX8_lost_59 rfl rfl ?_
    refine X_bipush (v := nI 6) (nx := 63) dX8_lost_61 rfl rfl ?_
    refine X_icmp_ge (tgt := 96) (nx := 66) dX8_lost_63 rfl rfl (fun h63 => ?_) (fun h63 => ?_)
    · exact absurd h63 (nI_ge (by omega) (by omega))
    · skip
      refine X_aload_n (nx := 67) dX8_lost_66 rfl rfl rfl ?_
      refine X_iload (nx := 69) dX8_lost_67 rfl rfl ?_
      refine Y_Vi1 (nx := 72) dX8_lost_69 rfl ml_RX8_254 kj_X8_isRoute kv_X8_isRoute (sp_X8_isRoute h.1 hw.1) (by first | assumption | rfl | decide | omega) (by first | assumption | rfl | decide | omega) (by decide) rfl (by first | decide | omega) (by exact Nat.le_of_ble_eq_true rfl) ?_
      refine X_top (show _ = b2i (thN (bk S) i) from congrArg b2i (isTh_n (B := bk S) hw.1.2.1 (by omega))) ?_
      refine X_if_ne (tgt := 78) (nx := 75) dX8_lost_72 rfl rfl (fun h72 => ?_) (fun h72 => ?_)
      · skip
        have hz : lsT (bk S) (i + 1) = lsT (bk S) i ++ [i] := by rw [lsT_s, if_pos (b2i_t.mp h72)]
        have hz2 : (lsT (bk S) (i + 1)).length = (lsT (bk S) i).length + 1 := by rw [hz, List.length_append]; rfl
        refine X_aload_n (nx := 79) dX8_lost_78 rfl rfl rfl ?_
        refine M_getP (nx := 82) dX8_lost_79 rfl fl_RX8_103 rfl (by first | assumption | rfl | decide | omega) (by first | assumption | rfl | decide | omega) (by first | assumption | rfl | decide | omega) ?_
        refine X_iload (nx := 84) dX8_lost_82 rfl rfl ?_
        refine X_iload (nx := 86) dX8_lost_84 rfl rfl ?_
        refine M_st (a := 136) (L := 6) (nx := 87) dX8_lost_86 rfl (by decide) (by decide) rfl (by decide) (by have := lsT_len (bk S) i; omega) ?_
        refine X_iinc (nx := 90) dX8_lost_87 rfl (by decide) rfl ((ii1 _).trans (congrArg nI hz2.symm)) rfl (st_s (st_s (st_s (st_s (st_s (st_s (st_0))))))) ?_
        refine X_iinc (nx := 93) dX8_lost_90 rfl (by decide) rfl (by first | exact ii1 _ | rfl) rfl (st_s (st_s (st_s (st_s (st_s (st_s (st_s (st_0)))))))) ?_
        refine X_goto (tgt := 59) dX8_lost_93 rfl ?_
        first
        | (have e9 := ih (i + 1) D1 (by omega) h (by rw [hz]; exact hL) hf
           rw [hz] at e9
           exact e9)
        | (have hx := scr_inv h hw (Fq.up (D := D1) (a := 136) (i := (lsT (bk S) i).length) (v := nI i) (by unfold SCR; omega))
           refine ih (i + 1) _ (by omega) hx.1 (fun k hk => ?_) (hf.tr hx.2)
           rw [hz2] at hk
           rw [hz]
           by_cases e : k = (lsT (bk S) i).length
           · subst e; rw [up2_same, getD_app2]
           · rw [up2_other (by omega), getD_app1 (by omega)]; exact hL k (by omega))
      · skip
        have hz : lsT (bk S) (i + 1) = lsT (bk S) i := by rw [lsT_s, if_neg (by rw [b2i_f.mp h72]; decide)]
        refine X_goto (tgt := 90) dX8_lost_75 rfl ?_
        refine X_iinc (nx := 93) dX8_lost_90 rfl (by decide) rfl (by first | exact ii1 _ | rfl) rfl (st_s (st_s (st_s (st_s (st_s (st_s (st_s (st_0)))))))) ?_
        refine X_goto (tgt := 59) dX8_lost_93 rfl ?_
        first
        | (have e9 := ih (i + 1) D1 (by omega) h (by rw [hz]; exact hL) hf
           rw [hz] at e9
           exact e9)
        | (have hx := scr_inv h hw (Fq.up (D := D1) (a := 136) (i := (lsT (bk S) i).length) (v := nI i) (by unfold SCR; omega))
           refine ih (i + 1) _ (by omega) hx.1 (fun k hk => ?_) (hf.tr hx.2)
           rw [hz2] at hk
           rw [hz]
           by_cases e : k = (lsT (bk S) i).length
           · subst e; rw [up2_same, getD_app2]
           · rw [up2_other (by omega), getD_app1 (by omega)]; exact hL k (by omega))
theorem sp_X8_lost {x y z w : Int32} {S : St} {D : Mem} (h : INV2 D S) (hw : WF S) : Rlx 6 j_X8_lost [.ref 104, .int x, .int y, .int z, .int w] D (fun u D' => CL2 D (m_lost S x y z w) u D') := by
  refine E.start 10 (ls := [some (.ref 104), some (.int x), some (.int y), some (.int z), some (.int w), none, none, none, none, none, none, none, none, none, none]) (by decide +kernel) (Nat.le_of_ble_eq_true rfl) rfl (Nat.le_refl _) (Nat.le_refl _) ?_
  have hcm := hw.1.2.1
  have hB2 := h.1.2.1
  refine X_aload_n (nx := 1) dX8_lost_0 rfl rfl rfl ?_
  refine X_iload_n (nx := 2) dX8_lost_1 rfl rfl rfl ?_
  refine X_iload_n (nx := 3) dX8_lost_2 rfl rfl rfl ?_
  refine Y_Vi2 (nx := 6) dX8_lost_3 rfl ml_RX8_311 kj_X8_notAsked kv_X8_notAsked (sp_X8_notAsked) (by first | assumption | rfl | decide | omega) (by first | assumption | rfl | decide | omega) (by decide) rfl (by first | decide | omega) (by exact Nat.le_of_ble_eq_true rfl) ?_
  by_cases q1 : ¬ decide (0 ≤ x ∧ x < 341) = true
  · rw [if_pos q1]
    refine X_istore (i := 5) (nx := 8) dX8_lost_6 rfl (by decide) rfl (st_s (st_s (st_s (st_s (st_s (st_0)))))) ?_
    refine X_iload (nx := 10) dX8_lost_8 rfl rfl ?_
    refine X_if_ne (tgt := 27) (nx := 13) dX8_lost_10 rfl rfl (fun h10 => ?_) (fun h10 => ?_)
    · skip
      refine X_iload (nx := 29) dX8_lost_27 rfl rfl ?_
      refine X_if_ne (tgt := 41) (nx := 32) dX8_lost_29 rfl rfl (fun h29 => ?_) (fun h29 => ?_)
      · skip
        refine X_iload (nx := 43) dX8_lost_41 rfl rfl ?_
        refine X_if_eq (tgt := 53) (nx := 46) dX8_lost_43 rfl rfl (fun h43 => ?_) (fun h43 => ?_)
        · exact absurd h43 (by decide)
        · skip
          refine X_aload_n (nx := 47) dX8_lost_46 rfl rfl rfl ?_
          refine X_iload (nx := 49) dX8_lost_47 rfl rfl ?_
          refine Y_Vl1 (nx := 52) dX8_lost_49 rfl ml_RX8_367 kj_X8_lowestOf kv_X8_lowestOf (by first | exact sp_X8_lowestOf (k := 1) rfl (by omega) (by omega) | exact sp_X8_lowestOf (k := 2) rfl (by omega) (by omega) | exact sp_X8_lowestOf (k := 4) rfl (by omega) (by omega) | exact sp_X8_lowestOf (k := 6) rfl (by omega) (by omega)) (by first | assumption | rfl | decide | omega) (by first | assumption | rfl | decide | omega) (by decide) rfl (by first | decide | omega) (by exact Nat.le_of_ble_eq_true rfl) ?_
          exact Z_retl dX8_lost_52 rfl (by
            unfold m_lost
            first
            | (rw [if_neg q1]; exact cl2_no (k := 1) h Fr.rf)
            | (rw [if_pos c1, if_neg (fun q => n20 q.2)]; exact cl2_no (k := 2) h Fr.rf)
            | (rw [if_pos c1, if_pos ⟨c2, c20⟩, if_pos q3]; exact cl2_no (k := 4) h Fr.rf)
            | (rw [if_pos c1, if_pos ⟨c2, c20⟩, if_neg q3, if_pos q4]; exact cl2_no (k := 6) h Fr.rf)
            | (rw [if_pos c1, if_neg (fun q => q2 q.1)]; exact cl2_no (k := 2) h Fr.rf))
      · exact absurd h29 (by decide)
    · exact absurd h10 (by decide)
  · rw [if_neg q1]
    have c1 := Decidable.not_not.mp q1
    by_cases q2 : ¬ decide (0 ≤ y ∧ y < 4) = true
    · rw [if_pos q2]
      refine X_istore (i := 5) (nx := 8) dX8_lost_6 rfl (by decide) rfl (st_s (st_s (st_s (st_s (st_s (st_0)))))) ?_
      refine X_iload (nx := 10) dX8_lost_8 rfl rfl ?_
      refine X_if_ne (tgt := 27) (nx := 13) dX8_lost_10 rfl rfl (fun h10 => ?_) (fun h10 => ?_)
      · skip
        refine X_iload (nx := 29) dX8_lost_27 rfl rfl ?_
        refine X_if_ne (tgt := 41) (nx := 32) dX8_lost_29 rfl rfl (fun h29 => ?_) (fun h29 => ?_)
        · skip
          refine X_iload (nx := 43) dX8_lost_41 rfl rfl ?_
          refine X_if_eq (tgt := 53) (nx := 46) dX8_lost_43 rfl rfl (fun h43 => ?_) (fun h43 => ?_)
          · exact absurd h43 (by decide)
          · skip
            refine X_aload_n (nx := 47) dX8_lost_46 rfl rfl rfl ?_
            refine X_iload (nx := 49) dX8_lost_47 rfl rfl ?_
            refine Y_Vl1 (nx := 52) dX8_lost_49 rfl ml_RX8_367 kj_X8_lowestOf kv_X8_lowestOf (by first | exact sp_X8_lowestOf (k := 1) rfl (by omega) (by omega) | exact sp_X8_lowestOf (k := 2) rfl (by omega) (by omega) | exact sp_X8_lowestOf (k := 4) rfl (by omega) (by omega) | exact sp_X8_lowestOf (k := 6) rfl (by omega) (by omega)) (by first | assumption | rfl | decide | omega) (by first | assumption | rfl | decide | omega) (by decide) rfl (by first | decide | omega) (by exact Nat.le_of_ble_eq_true rfl) ?_
            exact Z_retl dX8_lost_52 rfl (by
              unfold m_lost
              first
              | (rw [if_neg q1]; exact cl2_no (k := 1) h Fr.rf)
              | (rw [if_pos c1, if_neg (fun q => n20 q.2)]; exact cl2_no (k := 2) h Fr.rf)
              | (rw [if_pos c1, if_pos ⟨c2, c20⟩, if_pos q3]; exact cl2_no (k := 4) h Fr.rf)
              | (rw [if_pos c1, if_pos ⟨c2, c20⟩, if_neg q3, if_pos q4]; exact cl2_no (k := 6) h Fr.rf)
              | (rw [if_pos c1, if_neg (fun q => q2 q.1)]; exact cl2_no (k := 2) h Fr.rf))
        · exact absurd h29 (by decide)
      · exact absurd h10 (by decide)
    · rw [if_neg q2]
      have c2 := Decidable.not_not.mp q2
      obtain ⟨p, hp, rfl⟩ := ex_nI (N := 341) (n := 341) rfl (by decide) (of_decide_eq_true c1)
      have kp : (nI p).toNatClampNeg = p := nI_clamp (by omega)
      obtain ⟨v, hv, rfl⟩ := ex_nI (N := 4) (n := 4) rfl (by decide) (of_decide_eq_true c2)
      have kv : (nI v).toNatClampNeg = v := nI_clamp (by omega)
      refine X_istore (i := 5) (nx := 8) dX8_lost_6 rfl (by decide) rfl (st_s (st_s (st_s (st_s (st_s (st_0)))))) ?_
      refine X_iload (nx := 10) dX8_lost_8 rfl rfl ?_
      refine X_if_ne (tgt := 27) (nx := 13) dX8_lost_10 rfl rfl (fun h10 => ?_) (fun h10 => ?_)
      · exact absurd h10 (by decide)
      · skip
        refine X_iload (nx := 15) dX8_lost_13 rfl rfl ?_
        refine X_iconst (v := 0) (nx := 16) dX8_lost_15 rfl rfl ?_
        refine X_iconst (v := 1) (nx := 17) dX8_lost_16 rfl rfl ?_
        refine Y_Si3 (nx := 20) dX8_lost_17 rfl ml_RX8_115 kj_X8_isIn ks_X8_isIn (sp_X8_isIn) (by first | decide | omega) (by exact Nat.le_of_ble_eq_true rfl) ?_
        refine X_top (congrArg b2i d01) ?_
        refine X_if_ne (tgt := 27) (nx := 23) dX8_lost_20 rfl rfl (fun h20 => ?_) (fun h20 => ?_)
        · skip
          have c20 := b2i_t.mp h20
          refine X_iload (nx := 29) dX8_lost_27 rfl rfl ?_
          refine X_if_ne (tgt := 41) (nx := 32) dX8_lost_29 rfl rfl (fun h29 => ?_) (fun h29 => ?_)
          · exact absurd h29 (by decide)
          · skip
            refine X_iload_n (nx := 33) dX8_lost_32 rfl rfl rfl ?_
            refine X_iconst (v := 2) (nx := 34) dX8_lost_33 rfl rfl ?_
            refine X_bipush (v := 20) (nx := 36) dX8_lost_34 rfl rfl ?_
            refine Y_Si3 (nx := 39) dX8_lost_36 rfl ml_RX8_205 kj_X8_beyond ks_X8_beyond (sp_X8_beyond) (by first | decide | omega) (by exact Nat.le_of_ble_eq_true rfl) ?_
            by_cases q3 : z < 2
            · rw [if_pos q3]
              refine X_istore (i := 5) (nx := 41) dX8_lost_39 rfl (by decide) rfl (st_s (st_s (st_s (st_s (st_s (st_0)))))) ?_
              refine X_iload (nx := 43) dX8_lost_41 rfl rfl ?_
              refine X_if_eq (tgt := 53) (nx := 46) dX8_lost_43 rfl rfl (fun h43 => ?_) (fun h43 => ?_)
              · exact absurd h43 (by decide)
              · skip
                refine X_aload_n (nx := 47) dX8_lost_46 rfl rfl rfl ?_
                refine X_iload (nx := 49) dX8_lost_47 rfl rfl ?_
                refine Y_Vl1 (nx := 52) dX8_lost_49 rfl ml_RX8_367 kj_X8_lowestOf kv_X8_lowestOf (by first | exact sp_X8_lowestOf (k := 1) rfl (by omega) (by omega) | exact sp_X8_lowestOf (k := 2) rfl (by omega) (by omega) | exact sp_X8_lowestOf (k := 4) rfl (by omega) (by omega) | exact sp_X8_lowestOf (k := 6) rfl (by omega) (by omega)) (by first | assumption | rfl | decide | omega) (by first | assumption | rfl | decide | omega) (by decide) rfl (by first | decide | omega) (by exact Nat.le_of_ble_eq_true rfl) ?_
                exact Z_retl dX8_lost_52 rfl (by
                  unfold m_lost
                  first
                  | (rw [if_neg q1]; exact cl2_no (k := 1) h Fr.rf)
                  | (rw [if_pos c1, if_neg (fun q => n20 q.2)]; exact cl2_no (k := 2) h Fr.rf)
                  | (rw [if_pos c1, if_pos ⟨c2, c20⟩, if_pos q3]; exact cl2_no (k := 4) h Fr.rf)
                  | (rw [if_pos c1, if_pos ⟨c2, c20⟩, if_neg q3, if_pos q4]; exact cl2_no (k := 6) h Fr.rf)
                  | (rw [if_pos c1, if_neg (fun q => q2 q.1)]; exact cl2_no (k := 2) h Fr.rf))
            · rw [if_neg q3]
              by_cases q4 : 20 < z
              · rw [if_pos q4]
                refine X_istore (i := 5) (nx := 41) dX8_lost_39 rfl (by decide) rfl (st_s (st_s (st_s (st_s (st_s (st_0)))))) ?_
                refine X_iload (nx := 43) dX8_lost_41 rfl rfl ?_
                refine X_if_eq (tgt := 53) (nx := 46) dX8_lost_43 rfl rfl (fun h43 => ?_) (fun h43 => ?_)
                · exact absurd h43 (by decide)
                · skip
                  refine X_aload_n (nx := 47) dX8_lost_46 rfl rfl rfl ?_
                  refine X_iload (nx := 49) dX8_lost_47 rfl rfl ?_
                  refine Y_Vl1 (nx := 52) dX8_lost_49 rfl ml_RX8_367 kj_X8_lowestOf kv_X8_lowestOf (by first | exact sp_X8_lowestOf (k := 1) rfl (by omega) (by omega) | exact sp_X8_lowestOf (k := 2) rfl (by omega) (by omega) | exact sp_X8_lowestOf (k := 4) rfl (by omega) (by omega) | exact sp_X8_lowestOf (k := 6) rfl (by omega) (by omega)) (by first | assumption | rfl | decide | omega) (by first | assumption | rfl | decide | omega) (by decide) rfl (by first | decide | omega) (by exact Nat.le_of_ble_eq_true rfl) ?_
                  exact Z_retl dX8_lost_52 rfl (by
                    unfold m_lost
                    first
                    | (rw [if_neg q1]; exact cl2_no (k := 1) h Fr.rf)
                    | (rw [if_pos c1, if_neg (fun q => n20 q.2)]; exact cl2_no (k := 2) h Fr.rf)
                    | (rw [if_pos c1, if_pos ⟨c2, c20⟩, if_pos q3]; exact cl2_no (k := 4) h Fr.rf)
                    | (rw [if_pos c1, if_pos ⟨c2, c20⟩, if_neg q3, if_pos q4]; exact cl2_no (k := 6) h Fr.rf)
                    | (rw [if_pos c1, if_neg (fun q => q2 q.1)]; exact cl2_no (k := 2) h Fr.rf))
              · rw [if_neg q4]
                refine X_istore (i := 5) (nx := 41) dX8_lost_39 rfl (by decide) rfl (st_s (st_s (st_s (st_s (st_s (st_0)))))) ?_
                refine X_iload (nx := 43) dX8_lost_41 rfl rfl ?_
                refine X_if_eq (tgt := 53) (nx := 46) dX8_lost_43 rfl rfl (fun h43 => ?_) (fun h43 => ?_)
                · skip
                  refine X_iconst (v := nI 0) (nx := 54) dX8_lost_53 rfl rfl ?_
                  refine X_istore (i := 6) (nx := 56) dX8_lost_54 rfl (by decide) rfl (st_s (st_s (st_s (st_s (st_s (st_s (st_0))))))) ?_
                  refine X_iconst (v := nI 0) (nx := 57) dX8_lost_56 rfl rfl ?_
                  refine X_istore (i := 7) (nx := 59) dX8_lost_57 rfl (by decide) rfl (st_s (st_s (st_s (st_s (st_s (st_s (st_s (st_0)))))))) ?_
                  unfold m_lost
                  obtain ⟨t, ht, rfl⟩ := ex_nI (x := z) (N := 21) (n := 21) rfl (by decide) ⟨Int32.le_trans (by decide) (Int32.not_lt.mp q3), Int32.lt_of_le_of_lt (Int32.not_lt.mp q4) (by decide)⟩
                  have kt : (nI t).toNatClampNeg = t := nI_clamp (by omega)
                  have ht2 : 2 ≤ t := (nI_leI (a := 2) (by omega) (by omega)).mp (Int32.not_lt.mp q3)
                  rw [if_pos c1, if_pos ⟨c2, c20⟩, if_neg q3, if_neg q4, kp, kv, kt, ← lt_sum, ← (ld_5 (dS S) (dS_lt S)).1, ← lsT_D]
                  refine lp_lost_a hw (fun D2 h2 hL2 hf2 => ?_) 6 0 D rfl h (fun k hk => absurd hk (Nat.not_lt_zero _)) Fr.rf
                  refine X_lconst (v := 0) (nx := 97) dX8_lost_96 rfl rfl ?_
                  refine X_lstore (i := 7) (nx := 99) dX8_lost_97 rfl (by decide) rfl ((congrArg (fun z => List.set z (7 + 1) none) (st_s (st_s (st_s (st_s (st_s (st_s (st_s (st_0))))))))).trans (st_s (st_s (st_s (st_s (st_s (st_s (st_s (st_s (st_0)))))))))) ?_
                  refine X_lconst (v := 1) (nx := 100) dX8_lost_99 rfl rfl ?_
                  refine X_lstore (i := 9) (nx := 102) dX8_lost_100 rfl (by decide) rfl ((congrArg (fun z => List.set z (9 + 1) none) (st_s (st_s (st_s (st_s (st_s (st_s (st_s (st_s (st_s (st_0))))))))))).trans (st_s (st_s (st_s (st_s (st_s (st_s (st_s (st_s (st_s (st_s (st_0)))))))))))) ?_
                  refine X_iconst (v := nI 0) (nx := 103) dX8_lost_102 rfl rfl ?_
                  refine X_istore (i := 11) (nx := 105) dX8_lost_103 rfl (by decide) rfl (st_s (st_s (st_s (st_s (st_s (st_s (st_s (st_s (st_s (st_s (st_s (st_0)))))))))))) ?_
                  refine lp_lost_b hw ⟨ht2, by omega⟩ ?_ (lsT (bk S) 6).length 0 (Nat.zero_add _)
                  refine X_iconst (v := nI 0) (nx := 126) dX8_lost_125 rfl rfl ?_
                  refine X_istore (i := 11) (nx := 128) dX8_lost_126 rfl (by decide) rfl (st_s (st_s (st_s (st_s (st_s (st_s (st_s (st_s (st_s (st_s (st_s (st_0)))))))))))) ?_
                  exact lp_lost_c hw hp hv ⟨ht2, by omega⟩ (2 ^ (lsT (bk S) 6).length) 0 D2 (th_ (bk S)) 0 0 (Nat.zero_add _) h2 hL2 ⟨fun i hi _ => rfl, fun j hj => absurd hj (Nat.not_lt_zero _)⟩ hf2
                · exact absurd h43 (by decide)
        · skip
          have n20 := nb h20
          refine X_bipush (v := -2) (nx := 25) dX8_lost_23 rfl rfl ?_
          refine X_istore (i := 5) (nx := 27) dX8_lost_25 rfl (by decide) rfl (st_s (st_s (st_s (st_s (st_s (st_0)))))) ?_
          refine X_iload (nx := 29) dX8_lost_27 rfl rfl ?_
          refine X_if_ne (tgt := 41) (nx := 32) dX8_lost_29 rfl rfl (fun h29 => ?_) (fun h29 => ?_)
          · skip
            refine X_iload (nx := 43) dX8_lost_41 rfl rfl ?_
            refine X_if_eq (tgt := 53) (nx := 46) dX8_lost_43 rfl rfl (fun h43 => ?_) (fun h43 => ?_)
            · exact absurd h43 (by decide)
            · skip
              refine X_aload_n (nx := 47) dX8_lost_46 rfl rfl rfl ?_
              refine X_iload (nx := 49) dX8_lost_47 rfl rfl ?_
              refine Y_Vl1 (nx := 52) dX8_lost_49 rfl ml_RX8_367 kj_X8_lowestOf kv_X8_lowestOf (by first | exact sp_X8_lowestOf (k := 1) rfl (by omega) (by omega) | exact sp_X8_lowestOf (k := 2) rfl (by omega) (by omega) | exact sp_X8_lowestOf (k := 4) rfl (by omega) (by omega) | exact sp_X8_lowestOf (k := 6) rfl (by omega) (by omega)) (by first | assumption | rfl | decide | omega) (by first | assumption | rfl | decide | omega) (by decide) rfl (by first | decide | omega) (by exact Nat.le_of_ble_eq_true rfl) ?_
              exact Z_retl dX8_lost_52 rfl (by
                unfold m_lost
                first
                | (rw [if_neg q1]; exact cl2_no (k := 1) h Fr.rf)
                | (rw [if_pos c1, if_neg (fun q => n20 q.2)]; exact cl2_no (k := 2) h Fr.rf)
                | (rw [if_pos c1, if_pos ⟨c2, c20⟩, if_pos q3]; exact cl2_no (k := 4) h Fr.rf)
                | (rw [if_pos c1, if_pos ⟨c2, c20⟩, if_neg q3, if_pos q4]; exact cl2_no (k := 6) h Fr.rf)
                | (rw [if_pos c1, if_neg (fun q => q2 q.1)]; exact cl2_no (k := 2) h Fr.rf))
          · exact absurd h29 (by decide)
