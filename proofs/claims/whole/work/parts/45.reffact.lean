/-! THE REFERENCE: its sets are the trie's nodes -/
def wT (B : Bk) (T : Nat → Bool) : Nat := mkn (fun r => decide (r < cm_ B) && T r) 10
def NSb (B : Bk) (T : Nat → Bool) (q : Nd) (r : Nat) : Bool := decide (r < cm_ B) && (T r && (decide (ro_ B r = q.1) && q.2.isPrefixOf (es_ B r)))
def NW (B : Bk) (T : Nat → Bool) (q : Nd) : Nat := mkn (NSb B T q) 10
/-- no more are there than in the book -/
def TLE (B : Bk) (T : Nat → Bool) : Prop := ∀ r, r < cm_ B → T r = true → th_ B r = true
theorem NW_lt {B : Bk} {T : Nat → Bool} {q : Nd} : NW B T q < 1024 := mkn_lt _ 10
theorem NW_tb {B : Bk} (hV : VB B) {T : Nat → Bool} {q : Nd} {r : Nat} : (NW B T q).testBit r = NSb B T q r := by
  unfold NW
  rw [mkn_tb]
  have := hV.2.1
  by_cases h : r < 10
  · rw [decide_eq_true h, Bool.true_and]
  · rw [decide_eq_false h, Bool.false_and]
    unfold NSb
    rw [decide_eq_false (by omega : ¬ r < cm_ B), Bool.false_and]
theorem wT_tb {B : Bk} (hV : VB B) {T : Nat → Bool} {r : Nat} : (wT B T).testBit r = (decide (r < cm_ B) && T r) := by
  unfold wT
  rw [mkn_tb]
  have := hV.2.1
  by_cases h : r < 10
  · rw [decide_eq_true h, Bool.true_and]
  · rw [decide_eq_false h, Bool.false_and, decide_eq_false (by omega : ¬ r < cm_ B), Bool.false_and]
theorem so_NW {B : Bk} (hV : VB B) {T : Nat → Bool} {R : Nat} : mkn (soP B T R) (cm_ B) = NW B T (R, []) := by
  rw [mkn_cm hV.2.1]
  refine mkn_congr (fun k _ => ?_)
  unfold soP NSb
  simp
theorem pre_app {e : Nat} : ∀ (l es : List Nat), (l ++ [e]).isPrefixOf es = (l.isPrefixOf es && (decide (l.length < es.length) && decide (es.getD l.length 0 = e))) := by
  intro l
  induction l with
  | nil =>
    intro es
    cases es with
    | nil => rfl
    | cons x xs =>
      simp only [List.nil_append, List.isPrefixOf, List.length_nil, List.length_cons, List.getD_cons_zero, Bool.and_true, Bool.true_and]
      rw [decide_eq_true (Nat.succ_pos _), Bool.true_and]
      exact Bool.eq_iff_iff.mpr ⟨fun q => decide_eq_true (beq_iff_eq.mp q).symm, fun q => beq_iff_eq.mpr (of_decide_eq_true q).symm⟩
  | cons y l ih =>
    intro es
    cases es with
    | nil => rfl
    | cons x xs =>
      simp only [List.cons_append, List.isPrefixOf, List.length_cons, List.getD_cons_succ]
      rw [ih xs, Bool.and_assoc]
      congr 3
      exact decide_eq_decide.mpr (by omega)
theorem VS_cut {s : List Nat} (h : VS s) : pl s = s.length ∨ (pl s + 1 = s.length ∧ s.getD (pl s) 0 = 40) := by
  rcases List.eq_nil_or_concat s with rfl | ⟨l, b, rfl⟩
  · exact Or.inl rfl
  · rw [List.concat_eq_append] at *
    have h1 : pl l = l.length := by
      unfold pl
      rw [List.filter_eq_self.mpr]
      intro x hx
      obtain ⟨k, hk, rfl⟩ := List.mem_iff_getElem.mp hx
      have e2 : l[k] = (l ++ [b]).getD k 0 := by rw [getD_app1 hk, List.getD_eq_getElem?_getD, List.getElem?_eq_getElem hk]; rfl
      rw [e2]
      exact decide_eq_true (h.2.2 k (by rw [List.length_append, List.length_singleton]; omega))
    rw [pl_app, h1, List.length_append, List.length_singleton]
    by_cases e : b = 40
    · subst e
      exact Or.inr ⟨rfl, by rw [if_pos rfl, Nat.add_zero]; exact getD_app2⟩
    · exact Or.inl (by rw [if_neg e])
theorem sg_es {B : Bk} {r a e : Nat} (h : VS (sg_ B r)) (he : e < 7) : (decide (a < (sg_ B r).length) && decide (typ ((sg_ B r).getD a 0) = e)) = (decide (a < (es_ B r).length) && decide ((es_ B r).getD a 0 = e)) := by
  have hp := pl_le (sg_ B r)
  by_cases h1 : a < (es_ B r).length
  · rw [es_get h h1, decide_eq_true h1]
    rw [es_len] at h1
    rw [decide_eq_true (show a < (sg_ B r).length by omega)]
  · rw [decide_eq_false h1, Bool.false_and]
    rw [es_len] at h1
    by_cases h2 : a < (sg_ B r).length
    · rcases VS_cut h with h3 | ⟨h3, h4⟩
      · omega
      · rw [show a = pl (sg_ B r) by omega, h4, decide_eq_false (show ¬ typ 40 = e by unfold typ; rw [if_neg (by decide)]; omega), Bool.and_false]
    · rw [decide_eq_false h2, Bool.false_and]
theorem sb_NW {B : Bk} (hV : VB B) {T : Nat → Bool} {q : Nd} {e : Nat} (he : e < 7) : mkn (sbP B (NW B T q) q.2.length e) (cm_ B) = NW B T (q.1, q.2 ++ [e]) := by
  rw [mkn_cm hV.2.1]
  refine mkn_congr (fun k _ => ?_)
  unfold sbP
  rw [NW_tb hV]
  unfold NSb
  by_cases hk : k < cm_ B
  · rw [decide_eq_true hk, Bool.true_and, Bool.true_and, Bool.true_and, sg_es (hV.2.2 k hk).2.1 he, pre_app]
    simp only [Bool.and_assoc]
  · rw [decide_eq_false hk]; rfl
theorem ps_w {B : Bk} (hV : VB B) {T : Nat → Bool} (hT : TLE B T) {q : Nd} {e : Nat} : mkn (PSf B (q.1, q.2 ++ [e])) 10 &&& wT B T = NW B T (q.1, q.2 ++ [e]) := by
  apply Nat.eq_of_testBit_eq
  intro k
  rw [Nat.testBit_and, mkn_tb, wT_tb hV, NW_tb hV]
  have hc := hV.2.1
  unfold PSf NSb thN
  by_cases hk : k < cm_ B
  · rw [decide_eq_true hk, decide_eq_true (show k < 10 by omega), decide_eq_true (show q.2 ++ [e] ≠ [] by simp)]
    cases hTk : T k with
    | false => simp
    | true => rw [hT k hk hTk]; simp
  · rw [decide_eq_false hk]; simp
theorem pre_len {l es : List Nat} (h : l.isPrefixOf es = true) : l.length ≤ es.length := (List.isPrefixOf_iff_prefix.mp h).length_le
theorem pre_eq {l es : List Nat} (h : l.isPrefixOf es = true) (hl : es.length ≤ l.length) : es = l := ((List.isPrefixOf_iff_prefix.mp h).eq_of_length (Nat.le_antisymm (pre_len h) hl)).symm
theorem pre_self (l : List Nat) : l.isPrefixOf l = true := List.isPrefixOf_iff_prefix.mpr (List.prefix_refl l)
theorem fst_cut {p : Nat → Bool} {c n : Nat} (hc : c ≤ n) (h : ∀ x, c ≤ x → x < n → p x = false) : fst_ p 0 n = fst_ p 0 c := by
  cases hf : fst_ p 0 c with
  | none =>
    refine fst_intro_none (fun x h1 h2 => ?_)
    by_cases hx : x < c
    · exact fst_none hf x h1 (by omega)
    · exact h x (by omega) (by omega)
  | some k =>
    obtain ⟨h1, h2, h3, h4⟩ := fst_some hf
    exact fst_intro h1 (by omega) h3 h4
theorem at_len {B : Bk} {q : Nd} {r : Nat} (h : VS (sg_ B r)) : (q.2.isPrefixOf (es_ B r) && decide ((sg_ B r).length = q.2.length)) = (decide (es_ B r = q.2) && !rsB B r) := by
  have hp := pl_le (sg_ B r)
  have hl := es_len B r
  rw [Bool.eq_iff_iff]
  simp only [Bool.and_eq_true, decide_eq_true_eq, Bool.not_eq_true', rsB, decide_eq_false_iff_not]
  constructor
  · intro ⟨h1, h2⟩
    have h3 := pre_len h1
    exact ⟨pre_eq h1 (by omega), by omega⟩
  · intro ⟨h1, h2⟩
    rw [h1] at hl
    exact ⟨by rw [h1]; exact pre_self _, by omega⟩
theorem at_len1 {B : Bk} {q : Nd} {r : Nat} (h : VS (sg_ B r)) : (q.2.isPrefixOf (es_ B r) && (decide ((sg_ B r).length = q.2.length + 1) && rsB B r)) = (decide (es_ B r = q.2) && rsB B r) := by
  have hp := pl_le (sg_ B r)
  have hl := es_len B r
  rw [Bool.eq_iff_iff]
  simp only [Bool.and_eq_true, decide_eq_true_eq, rsB]
  constructor
  · intro ⟨h1, h2, h3⟩
    exact ⟨pre_eq h1 (by omega), h3⟩
  · intro ⟨h1, h2⟩
    rw [h1] at hl
    rcases VS_cut h with h3 | ⟨h3, _⟩
    · omega
    · exact ⟨by rw [h1]; exact pre_self _, by omega, h2⟩
theorem le_eb {B : Bk} (hV : VB B) {T : Nat → Bool} (hT : TLE B T) {q : Nd} {v a : Nat} {L : List Nat} (ha : a = L.length) : fst_ (leP B (NW B T q) q.2.length v) 0 (cm_ B) = ebF (RSf B) (ENf B) (SVf B) q (wT B T) v L 69 a := by
  have hc := hV.2.1
  unfold ebF
  rw [fst_cut (c := cm_ B) hc (fun x h1 h2 => by rw [wT_tb hV, decide_eq_false (by omega : ¬ x < cm_ B)]; simp)]
  refine fst_congr (fun r _ hr => ?_)
  have hr' : r < cm_ B := by omega
  unfold leP
  rw [NW_tb hV, wT_tb hV, if_neg (by decide), if_pos ⟨rfl, ha⟩]
  have h1 := at_len (B := B) (q := q) (hV.2.2 r hr').2.1
  unfold NSb ENf AT_ SVf svB thN
  rw [decide_eq_true hr']
  cases hTk : T r with
  | false => simp
  | true =>
    rw [hT r hr' hTk]
    simp only [Bool.true_and]
    cases decide (ro_ B r = q.1) with
    | false => simp
    | true =>
      simp only [Bool.true_and]
      rw [← Bool.and_assoc, h1]
      cases mtB B r <;> simp
theorem lr_eb {B : Bk} (hV : VB B) {T : Nat → Bool} (hT : TLE B T) {q : Nd} {v a : Nat} {L : List Nat} : fst_ (lrP B (NW B T q) q.2.length v) 0 (cm_ B) = ebF (RSf B) (ENf B) (SVf B) q (wT B T) v L 82 a := by
  have hc := hV.2.1
  unfold ebF
  rw [fst_cut (c := cm_ B) hc (fun x h1 h2 => by rw [wT_tb hV, decide_eq_false (by omega : ¬ x < cm_ B)]; simp)]
  refine fst_congr (fun r _ hr => ?_)
  have hr' : r < cm_ B := by omega
  unfold lrP
  rw [NW_tb hV, wT_tb hV, if_pos rfl]
  have h1 := at_len1 (B := B) (q := q) (hV.2.2 r hr').2.1
  unfold NSb RSf AT_ SVf svB thN
  rw [decide_eq_true hr']
  cases hTk : T r with
  | false => simp
  | true =>
    rw [hT r hr' hTk]
    simp only [Bool.true_and]
    cases decide (ro_ B r = q.1) with
    | false => simp
    | true =>
      simp only [Bool.true_and]
      rw [← Bool.and_assoc, ← Bool.and_assoc, Bool.and_assoc (q.2.isPrefixOf (es_ B r)), h1]
      cases mtB B r <;> cases rsB B r <;> simp
theorem eb_no {B : Bk} {q : Nd} {w v a s : Nat} {L : List Nat} (h1 : ¬ s = 82) (h2 : ¬ (s = 69 ∧ a = L.length)) : ebF (RSf B) (ENf B) (SVf B) q w v L s a = none := by
  unfold ebF
  refine fst_intro_none (fun x _ _ => ?_)
  rw [if_neg h1, if_neg h2, Bool.false_and]
theorem mf_MN {B : Bk} (hV : VB B) {T : Nat → Bool} (hT : TLE B T) {q : Nd} {r : Nat} (hr : r < cm_ B) : mfP B (NW B T q) q.2.length r = (MNf B q r && (wT B T).testBit r) := by
  unfold mfP
  rw [NW_tb hV, wT_tb hV]
  have h1 := at_len (B := B) (q := q) (hV.2.2 r hr).2.1
  unfold NSb MNf AT_ thN
  rw [decide_eq_true hr]
  cases hTk : T r with
  | false => simp
  | true =>
    rw [hT r hr hTk]
    simp only [Bool.true_and, Bool.and_true]
    cases decide (ro_ B r = q.1) with
    | false => simp
    | true =>
      simp only [Bool.true_and]
      rw [← Bool.and_assoc, h1]
      cases hm : mtB B r with
      | false => simp
      | true =>
        obtain ⟨m, _, _, _, hp⟩ := (hV.2.2 r hr).mount hm
        have : rsB B r = false := by unfold rsB; exact decide_eq_false (by omega)
        rw [this]; simp
theorem lkM_skip {LK : Nd → Nat → List (Nat × Nat) → LR} {B : Bk} {w : Nat} {q : Nd} {a : Nat} {ms : List (Nat × Nat)} : ∀ (j i n : Nat), (∀ r, i ≤ r → r < i + j → (MNf B q r && w.testBit r) = false) → lkM LK B w q a ms i (j + n) = lkM LK B w q a ms (i + j) n := by
  intro j
  induction j with
  | zero => intro i n _; rw [Nat.zero_add]; rfl
  | succ j ih =>
    intro i n h
    rw [show j + 1 + n = (j + n) + 1 by omega]
    show (if (MNf B q i && w.testBit i) = true then _ else lkM LK B w q a ms (i + 1) (j + n)) = _
    rw [if_neg (by rw [h i (Nat.le_refl _) (by omega)]; decide), ih (i + 1) n (fun r h1 h2 => h r (by omega) (by omega)), show i + 1 + j = i + (j + 1) by omega]
theorem MN_out {B : Bk} {q : Nd} {r : Nat} (h : ¬ r < cm_ B) : MNf B q r = false := by
  unfold MNf AT_ thN
  rw [decide_eq_false h]; rfl
theorem lkM_n {B : Bk} (hV : VB B) {T : Nat → Bool} (hT : TLE B T) {LK : Nd → Nat → List (Nat × Nat) → LR} {q : Nd} {a : Nat} {ms : List (Nat × Nat)} {m : Nat} (h : fst_ (mfP B (NW B T q) q.2.length) m (cm_ B - m) = none) : lkM LK B (wT B T) q a ms m (10 - m) = (none, 0) := by
  refine lkM_0 (10 - m) m (fun r h1 h2 => ?_)
  by_cases hr : r < cm_ B
  · rw [← mf_MN hV hT hr]; exact fst_none h r h1 (by omega)
  · rw [MN_out hr, Bool.false_and]
theorem lkM_k {B : Bk} (hV : VB B) {T : Nat → Bool} (hT : TLE B T) {LK : Nd → Nat → List (Nat × Nat) → LR} {q : Nd} {a : Nat} {ms : List (Nat × Nat)} {m k : Nat} (h : fst_ (mfP B (NW B T q) q.2.length) m (cm_ B - m) = some k) : lkM LK B (wT B T) q a ms m (10 - m) = if (LK (mon B k, []) a (ms ++ [(k, a)])).1.isSome = true then LK (mon B k, []) a (ms ++ [(k, a)]) else addc (LK (mon B k, []) a (ms ++ [(k, a)])).2 (lkM LK B (wT B T) q a ms (k + 1) (10 - (k + 1))) := by
  obtain ⟨h1, h2, h3, h4⟩ := fst_some h
  have hc := hV.2.1
  have hk : k < cm_ B := by omega
  rw [show 10 - m = (k - m) + (10 - k) by omega, lkM_skip (k - m) m (10 - k) (fun r g1 g2 => by rw [← mf_MN hV hT (by omega)]; exact h4 r g1 (by omega)), show m + (k - m) = k by omega, show 10 - k = (10 - (k + 1)) + 1 by omega]
  show (if (MNf B q k && (wT B T).testBit k) = true then _ else _) = _
  rw [if_pos (by rw [← mf_MN hV hT hk]; exact h3)]
theorem nxq_e {B : Bk} (hV : VB B) {T : Nat → Bool} (hT : TLE B T) {q : Nd} {a s e : Nat} {L : List Nat} (ha : a < L.length) (he : edg s (L.getD a 0) = some e) : nxq B (wT B T) L s a q = if NW B T (q.1, q.2 ++ [e]) = 0 then none else some (q.1, q.2 ++ [e]) := by
  unfold nxq
  rw [if_neg (by omega), he]
  show (if mkn (PSf B (q.1, q.2 ++ [e])) 10 &&& wT B T = 0 then none else some (q.1, q.2 ++ [e])) = _
  rw [ps_w hV hT]
theorem nxq_n {B : Bk} {w : Nat} {q : Nd} {a s : Nat} {L : List Nat} (h : edg s (L.getD a 0) = none ∨ L.length ≤ a) : nxq B w L s a q = none := by
  unfold nxq
  by_cases h2 : L.length ≤ a
  · rw [if_pos h2]
  · rw [if_neg h2]
    rcases h with h | h
    · rw [h]
    · exact absurd h h2
