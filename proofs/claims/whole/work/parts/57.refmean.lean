/-! THE REFERENCE: fractions; how many nodes are looked at, at most -/
def tab (m l : Nat) : Nat := (([[1, 4, 13, 40, 121], [21, 144, 693, 2880, 11061], [421, 4144, 26293, 136480, 630661]] : List (List Nat)).getD m []).getD l 0
def tl1 (m l : Nat) : Nat := if l = 0 then 0 else tab m (l - 1)
def tl2 (m l : Nat) : Nat := if m = 0 then 0 else tab (m - 1) l
theorem tab_ge : ∀ m, m < 3 → ∀ l, l < 5 → 1 + 3 * tl1 m l + 20 * tl2 m l ≤ tab m l := by decide
theorem tab_mono : ∀ m, m < 3 → ∀ l, l < 5 → ∀ m', m' < m → tab m' l ≤ tl2 m l := by decide
def nlc (r : List Nat) : Nat := (r.filter (fun s => decide (s = 76 ∨ s = 67 ∨ s = 65))).length
def nmc (r : List Nat) : Nat := (r.filter (fun s => decide (s = 77))).length
theorem ord_nc : ∀ i, i < 4 → nlc (ordS i) = 3 ∧ nmc (ordS i) ≤ 2 := by decide
theorem nxq_s {B : Bk} {w a s : Nat} {L : List Nat} {q q' : Nd} (h : nxq B w L s a q = some q') : a < L.length ∧ q'.1 = q.1 ∧ (s = 76 ∨ s = 67 ∨ s = 65) := by
  unfold nxq at h
  by_cases h1 : L.length ≤ a
  · rw [if_pos h1] at h; cases h
  · rw [if_neg h1] at h
    cases he : edg s (L.getD a 0) with
    | none => rw [he] at h; cases h
    | some e =>
      rw [he] at h
      have h : (if mkn (PSf B (q.1, q.2 ++ [e])) 10 &&& w = 0 then none else some (q.1, q.2 ++ [e])) = some q' := h
      refine ⟨by omega, ?_, ?_⟩
      · split at h
        · cases h
        · cases h; rfl
      · unfold edg at he
        split at he
        · exact Or.inl ‹_›
        · split at he
          · exact Or.inr (Or.inl ‹_›)
          · split at he
            · exact Or.inr (Or.inr ‹_›)
            · cases he
theorem lkM_cnt {LK : Nd → Nat → List (Nat × Nat) → LR} {B : Bk} {w a c : Nat} {q : Nd} {ms : List (Nat × Nat)} (h : ∀ i ms', MNf B q i = true → (LK (mon B i, []) a ms').2 ≤ c) : ∀ n i, (lkM LK B w q a ms i n).2 ≤ n * c := by
  intro n
  induction n with
  | zero => intro i; exact Nat.zero_le _
  | succ n ih =>
    intro i
    have h1 := ih (i + 1)
    rw [Nat.succ_mul]
    show (if (MNf B q i && w.testBit i) = true then _ else lkM LK B w q a ms (i + 1) n).2 ≤ _
    by_cases hc : (MNf B q i && w.testBit i) = true
    · rw [if_pos hc]
      simp only [Bool.and_eq_true] at hc
      have h2 := h i (ms ++ [(i, a)]) hc.1
      by_cases h3 : (LK (mon B i, []) a (ms ++ [(i, a)])).1.isSome = true
      · rw [if_pos h3]; omega
      · rw [if_neg h3]; show (LK (mon B i, []) a (ms ++ [(i, a)])).2 + (lkM LK B w q a ms (i + 1) n).2 ≤ _; omega
    · rw [if_neg hc]; omega
theorem lkS_cnt {LK : Nd → Nat → List (Nat × Nat) → LR} {B : Bk} {w v a c1 c2 : Nat} {L : List Nat} {st : Bool} {q : Nd} {ms : List (Nat × Nat)} (h1 : ∀ q', a < L.length → q'.1 = q.1 → (LK q' (a + 1) ms).2 ≤ c1) (h2 : ∀ i ms', MNf B q i = true → (LK (mon B i, []) a ms').2 ≤ c2) : ∀ r, (lkS LK B w v L st q a ms r).2 ≤ nlc r * c1 + nmc r * (10 * c2) := by
  intro r
  induction r with
  | nil => exact Nat.zero_le _
  | cons s r ih =>
    have hm := lkM_cnt (ms := ms) (w := w) h2 10 0
    rw [lkS]
    cases hn : nxq B w L s a q with
    | some q' =>
      obtain ⟨ha, hq, hs⟩ := nxq_s hn
      have h3 := h1 q' ha hq
      have e1 : nlc (s :: r) = nlc r + 1 := by unfold nlc; rw [List.filter_cons, if_pos (decide_eq_true hs)]; rfl
      have e2 : nmc (s :: r) = nmc r := by unfold nmc; rw [List.filter_cons_of_neg (by simp; omega)]
      rw [e1, e2, Nat.succ_mul]
      show (if (LK q' (a + 1) ms).1.isSome = true then LK q' (a + 1) ms else if st = true then (none, (LK q' (a + 1) ms).2) else addc (LK q' (a + 1) ms).2 (lkS LK B w v L st q a ms r)).2 ≤ _
      split
      · omega
      · split
        · show (LK q' (a + 1) ms).2 ≤ _; omega
        · show (LK q' (a + 1) ms).2 + (lkS LK B w v L st q a ms r).2 ≤ _; omega
    | none =>
      have e1 : nlc r ≤ nlc (s :: r) := by unfold nlc; rw [List.filter_cons]; split; exact Nat.le_succ _; exact Nat.le_refl _
      have e3 : nlc r * c1 ≤ nlc (s :: r) * c1 := Nat.mul_le_mul_right _ e1
      dsimp only
      by_cases h7 : s = 77
      · have e2 : nmc (s :: r) = nmc r + 1 := by unfold nmc; rw [List.filter_cons, if_pos (decide_eq_true h7)]; rfl
        rw [if_pos h7, e2, Nat.succ_mul]
        split
        · omega
        · show (lkM LK B w q a ms 0 10).2 + (lkS LK B w v L st q a ms r).2 ≤ _; omega
      · have e2 : nmc (s :: r) = nmc r := by unfold nmc; rw [List.filter_cons_of_neg (by simpa using h7)]
        rw [if_neg h7, e2]
        split
        · exact Nat.zero_le _
        · omega
theorem lk_cnt {B : Bk} (hV : VB B) {w v : Nat} {L : List Nat} {K F : Nat → Nat} (hL : L.length ≤ 4) : ∀ n (q : Nd) a ms, q.1 < 3 → a ≤ L.length → (lk B w v L K F n q a ms).2 ≤ tab (2 - q.1) (L.length - a) := by
  intro n
  induction n with
  | zero => intro q a ms _ _; exact Nat.zero_le _
  | succ n ih =>
    intro q a ms hq ha
    have hg := tab_ge (2 - q.1) (by omega) (L.length - a) (by omega)
    show (if K q.1 = 5 ∧ F q.1 < L.length - a then (none, 1) else addc 1 (lkS (lk B w v L K F n) B w v L (decide (K q.1 = 4) || decide (K q.1 = 5)) q a ms (ordS (oi (K q.1))))).2 ≤ _
    split
    · show 1 ≤ _; omega
    · have hs := lkS_cnt (LK := lk B w v L K F n) (B := B) (w := w) (v := v) (a := a) (L := L) (st := (decide (K q.1 = 4) || decide (K q.1 = 5))) (q := q) (ms := ms) (c1 := tl1 (2 - q.1) (L.length - a)) (c2 := tl2 (2 - q.1) (L.length - a))
        (fun q' h1 h2 => by
          have := ih q' (a + 1) ms (by omega) (by omega)
          unfold tl1
          rw [if_neg (by omega), show L.length - a - 1 = L.length - (a + 1) by omega, ← h2]; exact this)
        (fun i ms' hm => by
          obtain ⟨_, _, _, m, _, hm1, hm2, hm3⟩ := MNf_use hV hm
          have := ih (mon B i, []) a ms' (by show mon B i < 3; omega) ha
          exact Nat.le_trans this (tab_mono (2 - q.1) (by omega) (L.length - a) (by omega) (2 - mon B i) (by omega))) (ordS (oi (K q.1)))
      obtain ⟨n1, n2⟩ := ord_nc (oi (K q.1)) (oi_lt _)
      rw [n1] at hs
      have h5 : nmc (ordS (oi (K q.1))) * (10 * tl2 (2 - q.1) (L.length - a)) ≤ 2 * (10 * tl2 (2 - q.1) (L.length - a)) := Nat.mul_le_mul_right _ n2
      show 1 + (lkS _ _ _ _ _ _ _ _ _ _).2 ≤ _
      omega
theorem tab_le : ∀ m, m < 3 → ∀ l, l < 5 → tab m l ≤ 630661 := by decide
theorem mt_cnt {B : Bk} (hV : VB B) {w v p : Nat} {K F : Nat → Nat} : (mt B w v p K F).2 ≤ 630661 := by
  have hL : (pathL p).length ≤ 4 := by rw [pathL_len]; exact sz_le p
  exact Nat.le_trans (lk_cnt hV hL 7 (0, []) 0 [] (by decide) (Nat.zero_le _)) (tab_le 2 (by omega) _ (by omega))
theorem sumN_le {f : Nat → Nat} {c : Nat} (h : ∀ k, f k ≤ c) : ∀ n, sumN f n ≤ n * c := by
  intro n
  induction n with
  | zero => exact Nat.zero_le _
  | succ n ih => rw [Nat.succ_mul]; exact Nat.add_le_add ih (h n)
theorem gcd_st {p q : Nat} : Nat.gcd p q = Nat.gcd q (p % q) := by rw [Nat.gcd_comm p q, Nat.gcd_rec, Nat.gcd_comm]
theorem lN_0 {n : Nat} (h : n < 9223372036854775808) : lN n = 0 ↔ n = 0 := by
  have := pk_lEQ (a := n) (b := 0) h (by decide)
  exact this
theorem lrem_N {a b : Nat} (ha : a < 9223372036854775808) (h0 : 0 < b) (hb : b < 9223372036854775808) : lrem (lN a) (lN b) = lN (a % b) := pk_lRem ha h0 hb
theorem mod_half {b r : Nat} (h0 : 0 < r) (h : r < b) : 2 * (b % r) < b := by
  have h1 := Nat.div_add_mod b r
  have h2 := Nat.mod_lt b h0
  have h3 : r * 1 ≤ r * (b / r) := Nat.mul_le_mul_left r (Nat.div_pos (by omega) h0)
  omega
theorem euc_gcd : ∀ k n a b, b < 2 ^ k → 2 * k + 1 ≤ n → a < 9223372036854775808 → b < 9223372036854775808 → euc n (lN a) (lN b) = lN (Nat.gcd a b) := by
  intro k
  induction k with
  | zero =>
    intro n a b hb hn ha hb2
    obtain rfl : b = 0 := by omega
    obtain ⟨n, rfl⟩ : ∃ n', n = n' + 1 := ⟨n - 1, by omega⟩
    rw [Nat.gcd_zero_right]
    exact if_pos rfl
  | succ k ih =>
    intro n a b hb hn ha hb2
    obtain ⟨n, rfl⟩ : ∃ n', n = n' + 2 := ⟨n - 2, by omega⟩
    by_cases h0 : b = 0
    · subst h0
      rw [Nat.gcd_zero_right]
      exact if_pos rfl
    · have e1 : euc (n + 2) (lN a) (lN b) = euc (n + 1) (lN b) (lrem (lN a) (lN b)) := if_neg (fun q => h0 ((lN_0 hb2).mp q))
      rw [e1, lrem_N ha (by omega) hb2, gcd_st]
      have hr := Nat.mod_lt a (show 0 < b by omega)
      by_cases h1 : a % b = 0
      · rw [h1, Nat.gcd_zero_right]
        exact if_pos rfl
      · have e2 : euc (n + 1) (lN b) (lN (a % b)) = euc n (lN (a % b)) (lrem (lN b) (lN (a % b))) := if_neg (fun q => h1 ((lN_0 (by omega)).mp q))
        have hh := mod_half (b := b) (r := a % b) (by omega) hr
        rw [e2, lrem_N hb2 (by omega) (by omega), gcd_st (p := b)]
        refine ih n (a % b) (b % (a % b)) ?_ (by omega) (by omega) (by omega)
        rw [Nat.pow_succ] at hb
        omega
theorem dX8_divisor_0 : decode cX8_divisor 0 = .ok (.lload_n 0, 1) := by decide +kernel
theorem dX8_divisor_1 : decode cX8_divisor 1 = .ok (.lstore 4, 2) := by decide +kernel
theorem dX8_divisor_3 : decode cX8_divisor 3 = .ok (.lload_n 2, 1) := by decide +kernel
theorem dX8_divisor_4 : decode cX8_divisor 4 = .ok (.lstore 6, 2) := by decide +kernel
theorem dX8_divisor_6 : decode cX8_divisor 6 = .ok (.lload 6, 2) := by decide +kernel
theorem dX8_divisor_8 : decode cX8_divisor 8 = .ok (.lconst 0, 1) := by decide +kernel
theorem dX8_divisor_9 : decode cX8_divisor 9 = .ok (.lcmp, 1) := by decide +kernel
theorem dX8_divisor_10 : decode cX8_divisor 10 = .ok (.ifCond .eq 21, 3) := by decide +kernel
theorem dX8_divisor_13 : decode cX8_divisor 13 = .ok (.lload 4, 2) := by decide +kernel
theorem dX8_divisor_15 : decode cX8_divisor 15 = .ok (.lload 6, 2) := by decide +kernel
theorem dX8_divisor_17 : decode cX8_divisor 17 = .ok (.lrem, 1) := by decide +kernel
theorem dX8_divisor_18 : decode cX8_divisor 18 = .ok (.lstore 8, 2) := by decide +kernel
theorem dX8_divisor_20 : decode cX8_divisor 20 = .ok (.lload 6, 2) := by decide +kernel
theorem dX8_divisor_22 : decode cX8_divisor 22 = .ok (.lstore 4, 2) := by decide +kernel
theorem dX8_divisor_24 : decode cX8_divisor 24 = .ok (.lload 8, 2) := by decide +kernel
theorem dX8_divisor_26 : decode cX8_divisor 26 = .ok (.lstore 6, 2) := by decide +kernel
theorem dX8_divisor_28 : decode cX8_divisor 28 = .ok (.goto (-22), 3) := by decide +kernel
theorem dX8_divisor_31 : decode cX8_divisor 31 = .ok (.lload 4, 2) := by decide +kernel
theorem dX8_divisor_33 : decode cX8_divisor 33 = .ok (.lreturn, 1) := by decide +kernel
theorem lp_X8_divisor {a b : Int64} {D : Mem} : ∀ (m : Nat) (p q : Nat) (o9 o10 : Option Value), q ≤ m → p < 9223372036854775808 → q < 9223372036854775808 → X 1 138 j_X8_divisor 6 [some (.long a), none, some (.long b), none, some (.long (lN p)), none, some (.long (lN q)), none, o9, o10] [] (138, P0, D) (fun r σ => r = [.long (lN (Nat.gcd p q))] ∧ σ = wd D) := by
  intro m
  induction m with
  | zero =>
    intro p q o9 o10 hq hp hq2
    refine X_lload (nx := 8) dX8_divisor_6 rfl rfl ?_
    refine X_lconst (v := 0) (nx := 9) dX8_divisor_8 rfl rfl ?_
    refine X_lcmp (nx := 10) dX8_divisor_9 rfl ?_
    refine X_if_eq (tgt := 31) (nx := 13) dX8_divisor_10 rfl rfl (fun h10 => ?_) (fun h10 => ?_)
    · skip
      rw [cmp_0, lN_0 hq2] at h10
      refine X_lload (nx := 33) dX8_divisor_31 rfl rfl ?_
      exact Y_retl dX8_divisor_33 rfl (by rw [h10, Nat.gcd_zero_right]) rfl
    · skip
      rw [cmp_0, lN_0 hq2] at h10
      exact absurd (Nat.le_zero.mp hq) h10
  | succ m ih =>
    intro p q o9 o10 hq hp hq2
    refine X_lload (nx := 8) dX8_divisor_6 rfl rfl ?_
    refine X_lconst (v := 0) (nx := 9) dX8_divisor_8 rfl rfl ?_
    refine X_lcmp (nx := 10) dX8_divisor_9 rfl ?_
    refine X_if_eq (tgt := 31) (nx := 13) dX8_divisor_10 rfl rfl (fun h10 => ?_) (fun h10 => ?_)
    · skip
      rw [cmp_0, lN_0 hq2] at h10
      refine X_lload (nx := 33) dX8_divisor_31 rfl rfl ?_
      exact Y_retl dX8_divisor_33 rfl (by rw [h10, Nat.gcd_zero_right]) rfl
    · skip
      rw [cmp_0, lN_0 hq2] at h10
      refine X_lload (nx := 15) dX8_divisor_13 rfl rfl ?_
      refine X_lload (nx := 17) dX8_divisor_15 rfl rfl ?_
      refine X_lrem (nx := 18) dX8_divisor_17 rfl (by exact fun w => h10 ((lN_0 hq2).mp w)) ?_
      rw [pk_lRem hp (by omega) hq2]
      refine X_lstore (i := 8) (nx := 20) dX8_divisor_18 rfl (by decide) rfl ((congrArg (fun z => List.set z (8 + 1) none) (st_s (st_s (st_s (st_s (st_s (st_s (st_s (st_s (st_0)))))))))).trans (st_s (st_s (st_s (st_s (st_s (st_s (st_s (st_s (st_s (st_0))))))))))) ?_
      refine X_lload (nx := 22) dX8_divisor_20 rfl rfl ?_
      refine X_lstore (i := 4) (nx := 24) dX8_divisor_22 rfl (by decide) rfl ((congrArg (fun z => List.set z (4 + 1) none) (st_s (st_s (st_s (st_s (st_0)))))).trans (st_s (st_s (st_s (st_s (st_s (st_0))))))) ?_
      refine X_lload (nx := 26) dX8_divisor_24 rfl rfl ?_
      refine X_lstore (i := 6) (nx := 28) dX8_divisor_26 rfl (by decide) rfl ((congrArg (fun z => List.set z (6 + 1) none) (st_s (st_s (st_s (st_s (st_s (st_s (st_0)))))))).trans (st_s (st_s (st_s (st_s (st_s (st_s (st_s (st_0))))))))) ?_
      refine X_goto (tgt := 6) dX8_divisor_28 rfl ?_
      have hml := Nat.mod_lt p (show 0 < q by omega)
      rw [gcd_st]
      exact ih q (p % q) _ _ (by omega) hq2 (by omega)
theorem sp_X8_divisor {p q : Nat} {D : Mem} (hp : p < 9223372036854775808) (hq : q < 9223372036854775808) : El 1 j_X8_divisor [.long (lN p), .long (lN q)] D (lN (Nat.gcd p q)) (D) := by
  refine E.start 6 (ls := [some (.long (lN p)), none, some (.long (lN q)), none, none, none, none, none, none, none]) (by decide +kernel) (Nat.le_of_ble_eq_true rfl) rfl (Nat.le_refl _) (Nat.le_refl _) ?_
  refine X_lload_n (nx := 1) dX8_divisor_0 rfl rfl rfl ?_
  refine X_lstore (i := 4) (nx := 3) dX8_divisor_1 rfl (by decide) rfl ((congrArg (fun z => List.set z (4 + 1) none) (st_s (st_s (st_s (st_s (st_0)))))).trans (st_s (st_s (st_s (st_s (st_s (st_0))))))) ?_
  refine X_lload_n (nx := 4) dX8_divisor_3 rfl rfl rfl ?_
  refine X_lstore (i := 6) (nx := 6) dX8_divisor_4 rfl (by decide) rfl ((congrArg (fun z => List.set z (6 + 1) none) (st_s (st_s (st_s (st_s (st_s (st_s (st_0)))))))).trans (st_s (st_s (st_s (st_s (st_s (st_s (st_s (st_0))))))))) ?_
  exact lp_X8_divisor q p q none none (Nat.le_refl _) hp hq
theorem dX8_partOf_0 : decode cX8_partOf 0 = .ok (.iload 4, 2) := by decide +kernel
theorem dX8_partOf_2 : decode cX8_partOf 2 = .ok (.ifCond .ne 7, 3) := by decide +kernel
theorem dX8_partOf_5 : decode cX8_partOf 5 = .ok (.lload_n 0, 1) := by decide +kernel
theorem dX8_partOf_6 : decode cX8_partOf 6 = .ok (.goto 4, 3) := by decide +kernel
theorem dX8_partOf_9 : decode cX8_partOf 9 = .ok (.lload_n 2, 1) := by decide +kernel
theorem dX8_partOf_10 : decode cX8_partOf 10 = .ok (.lload_n 0, 1) := by decide +kernel
theorem dX8_partOf_11 : decode cX8_partOf 11 = .ok (.lload_n 2, 1) := by decide +kernel
theorem dX8_partOf_12 : decode cX8_partOf 12 = .ok (.invokestatic 363, 3) := by decide +kernel
theorem dX8_partOf_15 : decode cX8_partOf 15 = .ok (.ldiv, 1) := by decide +kernel
theorem dX8_partOf_16 : decode cX8_partOf 16 = .ok (.lreturn, 1) := by decide +kernel
theorem sp_X8_partOf {p q : Nat} {z : Int32} {D : Mem} (hp : p < 9223372036854775808) (hq : q < 562949953421312) (h0 : 0 < q) : El 2 j_X8_partOf [.long (lN p), .long (lN q), .int z] D (pof (lN p) (lN q) z) (D) := by
  refine E.start 0 (ls := [some (.long (lN p)), none, some (.long (lN q)), none, some (.int z)]) (by decide +kernel) (Nat.le_of_ble_eq_true rfl) rfl (Nat.le_refl _) (Nat.le_refl _) ?_
  have hg := Nat.gcd_pos_of_pos_right p h0
  have hgl : Nat.gcd p q < 9223372036854775808 := Nat.lt_of_le_of_lt (Nat.gcd_le_right p h0) (by omega)
  have hgn : ¬ lN (Nat.gcd p q) = 0 := fun w => absurd ((lN_0 hgl).mp w) (by omega)
  have he := euc_gcd 49 100 p q (by omega) (by omega) hp (by omega)
  refine X_iload (nx := 2) dX8_partOf_0 rfl rfl ?_
  refine X_if_ne (tgt := 9) (nx := 5) dX8_partOf_2 rfl rfl (fun h2 => ?_) (fun h2 => ?_)
  · skip
    refine X_lload_n (nx := 10) dX8_partOf_9 rfl rfl rfl ?_
    refine X_lload_n (nx := 11) dX8_partOf_10 rfl rfl rfl ?_
    refine X_lload_n (nx := 12) dX8_partOf_11 rfl rfl rfl ?_
    refine Y_Sl2 (nx := 15) dX8_partOf_12 rfl ml_RX8_363 kj_X8_divisor ks_X8_divisor (sp_X8_divisor hp (by omega)) (by first | decide | omega) (by exact Nat.le_of_ble_eq_true rfl) ?_
    refine X_ldiv (nx := 16) dX8_partOf_15 rfl hgn ?_
    exact Y_retl dX8_partOf_16 rfl (by unfold pof; rw [he, if_neg hgn]; first | rw [if_pos h2] | rw [if_neg h2]) rfl
  · skip
    refine X_lload_n (nx := 6) dX8_partOf_5 rfl rfl rfl ?_
    refine X_goto (tgt := 10) dX8_partOf_6 rfl ?_
    refine X_lload_n (nx := 11) dX8_partOf_10 rfl rfl rfl ?_
    refine X_lload_n (nx := 12) dX8_partOf_11 rfl rfl rfl ?_
    refine Y_Sl2 (nx := 15) dX8_partOf_12 rfl ml_RX8_363 kj_X8_divisor ks_X8_divisor (sp_X8_divisor hp (by omega)) (by first | decide | omega) (by exact Nat.le_of_ble_eq_true rfl) ?_
    refine X_ldiv (nx := 16) dX8_partOf_15 rfl hgn ?_
    exact Y_retl dX8_partOf_16 rfl (by unfold pof; rw [he, if_neg hgn]; first | rw [if_pos h2] | rw [if_neg h2]) rfl
theorem dX8_mean_0 : decode cX8_mean 0 = .ok (.iload_n 1, 1) := by decide +kernel
theorem dX8_mean_1 : decode cX8_mean 1 = .ok (.invokestatic 243, 3) := by decide +kernel
theorem dX8_mean_4 : decode cX8_mean 4 = .ok (.ifCond .eq 12, 3) := by decide +kernel
theorem dX8_mean_7 : decode cX8_mean 7 = .ok (.iload_n 2, 1) := by decide +kernel
theorem dX8_mean_8 : decode cX8_mean 8 = .ok (.iconst 0, 1) := by decide +kernel
theorem dX8_mean_9 : decode cX8_mean 9 = .ok (.iconst 1, 1) := by decide +kernel
theorem dX8_mean_10 : decode cX8_mean 10 = .ok (.invokestatic 115, 3) := by decide +kernel
theorem dX8_mean_13 : decode cX8_mean 13 = .ok (.ifCond .ne 10, 3) := by decide +kernel
theorem dX8_mean_16 : decode cX8_mean 16 = .ok (.aload_n 0, 1) := by decide +kernel
theorem dX8_mean_17 : decode cX8_mean 17 = .ok (.bipush (-2), 2) := by decide +kernel
theorem dX8_mean_19 : decode cX8_mean 19 = .ok (.invokevirtual 367, 3) := by decide +kernel
theorem dX8_mean_22 : decode cX8_mean 22 = .ok (.lreturn, 1) := by decide +kernel
theorem dX8_mean_23 : decode cX8_mean 23 = .ok (.aload_n 0, 1) := by decide +kernel
theorem dX8_mean_24 : decode cX8_mean 24 = .ok (.iload_n 1, 1) := by decide +kernel
theorem dX8_mean_25 : decode cX8_mean 25 = .ok (.invokevirtual 329, 3) := by decide +kernel
theorem dX8_mean_28 : decode cX8_mean 28 = .ok (.pop, 1) := by decide +kernel
theorem dX8_mean_29 : decode cX8_mean 29 = .ok (.aload_n 0, 1) := by decide +kernel
theorem dX8_mean_30 : decode cX8_mean 30 = .ok (.getfield 326, 3) := by decide +kernel
theorem dX8_mean_33 : decode cX8_mean 33 = .ok (.i2l, 1) := by decide +kernel
theorem dX8_mean_34 : decode cX8_mean 34 = .ok (.ldc2_w 375, 3) := by decide +kernel
theorem dX8_mean_37 : decode cX8_mean 37 = .ok (.iload_n 2, 1) := by decide +kernel
theorem dX8_mean_38 : decode cX8_mean 38 = .ok (.invokestatic 371, 3) := by decide +kernel
theorem dX8_mean_41 : decode cX8_mean 41 = .ok (.lreturn, 1) := by decide +kernel
theorem sp_X8_mean {y z : Int32} {S : St} {D : Mem} (h : INV2 D S) (hw : WF S) : Rlx 7 j_X8_mean [.ref 104, .int y, .int z] D (fun u D' => CL2 D (m_mean S y z) u D') := by
  refine E.start 0 (ls := [some (.ref 104), some (.int y), some (.int z)]) (by decide +kernel) (Nat.le_of_ble_eq_true rfl) rfl (Nat.le_refl _) (Nat.le_refl _) ?_
  have hcm := hw.1.2.1
  have hB2 := h.1.2.1
  refine X_iload_n (nx := 1) dX8_mean_0 rfl rfl rfl ?_
  refine Y_Si1 (nx := 4) dX8_mean_1 rfl ml_RX8_243 kj_X8_isVerb ks_X8_isVerb (sp_X8_isVerb) (by first | decide | omega) (by exact Nat.le_of_ble_eq_true rfl) ?_
  refine X_if_eq (tgt := 16) (nx := 7) dX8_mean_4 rfl rfl (fun h4 => ?_) (fun h4 => ?_)
  · skip
    have n4 := nb h4
    refine X_aload_n (nx := 17) dX8_mean_16 rfl rfl rfl ?_
    refine X_bipush (v := -2) (nx := 19) dX8_mean_17 rfl rfl ?_
    refine Y_Vl1 (nx := 22) dX8_mean_19 rfl ml_RX8_367 kj_X8_lowestOf kv_X8_lowestOf (sp_X8_lowestOf (k := 2) rfl (by omega) (by omega)) (by first | assumption | rfl | decide | omega) (by first | assumption | rfl | decide | omega) (by decide) rfl (by first | decide | omega) (by exact Nat.le_of_ble_eq_true rfl) ?_
    exact Z_retl dX8_mean_22 rfl (by unfold m_mean; rw [if_neg (fun q => by first | exact n4 q.1 | exact n13 q.2)]; exact cl2_no (k := 2) h Fr.rf)
  · skip
    have c4 := b2i_t.mp h4
    obtain ⟨v, hv, rfl⟩ := ex_nI (N := 4) (n := 4) rfl (by decide) (of_decide_eq_true c4)
    have k4 : (nI v).toNatClampNeg = v := nI_clamp (by omega)
    refine X_iload_n (nx := 8) dX8_mean_7 rfl rfl rfl ?_
    refine X_iconst (v := 0) (nx := 9) dX8_mean_8 rfl rfl ?_
    refine X_iconst (v := 1) (nx := 10) dX8_mean_9 rfl rfl ?_
    refine Y_Si3 (nx := 13) dX8_mean_10 rfl ml_RX8_115 kj_X8_isIn ks_X8_isIn (sp_X8_isIn) (by first | decide | omega) (by exact Nat.le_of_ble_eq_true rfl) ?_
    refine X_top (congrArg b2i d01) ?_
    refine X_if_ne (tgt := 23) (nx := 16) dX8_mean_13 rfl rfl (fun h13 => ?_) (fun h13 => ?_)
    · skip
      have c13 := b2i_t.mp h13
      refine X_aload_n (nx := 24) dX8_mean_23 rfl rfl rfl ?_
      refine X_iload_n (nx := 25) dX8_mean_24 rfl rfl rfl ?_
      refine Z_Vi1 (nx := 28) dX8_mean_25 rfl ml_RX8_329 kj_X8_matchedBy kv_X8_matchedBy (sp_X8_matchedBy hw hw.1.1 tle hv h rfl) (by first | assumption | rfl | decide | omega) (by first | assumption | rfl | decide | omega) (by decide) rfl (by first | decide | omega) (by exact Nat.le_of_ble_eq_true rfl) (fun u25 D25 g25 => ?_)
      refine X_pop (nx := 29) dX8_mean_28 rfl rfl ?_
      refine X_aload_n (nx := 30) dX8_mean_29 rfl rfl rfl ?_
      refine M_getI (nx := 33) dX8_mean_30 rfl fl_RX8_326 rfl (by first | assumption | rfl | decide | omega) (by first | assumption | rfl | decide | omega) ?_
      refine X_top (g25.2.2.2) ?_
      have hsl := sumN_le (fun p => mt_cnt hw.1 (w := wT (bk S) (th_ (bk S))) (v := v) (p := p) (K := kd_ (bk S)) (F := fg_ (bk S))) 341
      refine X_i2l (nx := 34) dX8_mean_33 rfl ?_
      rw [nI_l (by omega)]
      refine X_ldc2 (nx := 37) dX8_mean_34 rfl ct_RX8_375 ?_
      refine X_iload_n (nx := 38) dX8_mean_37 rfl rfl rfl ?_
      refine Y_Sl3 (nx := 41) dX8_mean_38 rfl ml_RX8_371 kj_X8_partOf ks_X8_partOf (sp_X8_partOf (q := 341) (by omega) (by omega) (by omega)) (by first | decide | omega) (by exact Nat.le_of_ble_eq_true rfl) ?_
      exact Z_retl dX8_mean_41 rfl (by unfold m_mean; rw [if_pos ⟨c4, c13⟩, k4]; have e := nI_l (n := sumN (fun p => (MT S v p).2) 341) (show _ < 2 ^ 31 from Nat.lt_of_le_of_lt hsl (by decide)); rw [e]; exact cl2_s rfl g25.2.1 (SCR.fr g25.2.2.1))
    · skip
      have n13 := nb h13
      refine X_aload_n (nx := 17) dX8_mean_16 rfl rfl rfl ?_
      refine X_bipush (v := -2) (nx := 19) dX8_mean_17 rfl rfl ?_
      refine Y_Vl1 (nx := 22) dX8_mean_19 rfl ml_RX8_367 kj_X8_lowestOf kv_X8_lowestOf (sp_X8_lowestOf (k := 2) rfl (by omega) (by omega)) (by first | assumption | rfl | decide | omega) (by first | assumption | rfl | decide | omega) (by decide) rfl (by first | decide | omega) (by exact Nat.le_of_ble_eq_true rfl) ?_
      exact Z_retl dX8_mean_22 rfl (by unfold m_mean; rw [if_neg (fun q => by first | exact n4 q.1 | exact n13 q.2)]; exact cl2_no (k := 2) h Fr.rf)
