/-! THE REFERENCE: nodes -/
theorem nix_mem {nl : List Nd} {q : Nd} : (nix nl q).isSome = true ↔ q ∈ nl := by
  unfold nix
  constructor
  · intro h
    cases hf : fst_ (fun j => decide (ng nl j = q)) 0 nl.length with
    | none => rw [hf] at h; cases h
    | some k =>
      obtain ⟨_, h2, h3, _⟩ := fst_some hf
      have := of_decide_eq_true h3
      rw [← this]
      exact getD_mem (by omega)
  · intro h
    obtain ⟨k, hk, hq⟩ := List.mem_iff_getElem.mp h
    cases hf : fst_ (fun j => decide (ng nl j = q)) 0 nl.length with
    | some j => rfl
    | none =>
      have := fst_none hf k (Nat.zero_le _) (by omega)
      have e : ng nl k = q := by unfold ng; rw [List.getD_eq_getElem?_getD, List.getElem?_eq_getElem hk]; exact hq
      exact absurd e (of_decide_eq_false this)
def cnL (nl : List Nd) (R : Nat) : Nat := (nl.filter (fun q => decide (q.1 = R))).length
theorem cnL_app {nl : List Nd} {q : Nd} {R : Nat} : cnL (nl ++ [q]) R = cnL nl R + if q.1 = R then 1 else 0 := by
  unfold cnL
  rw [List.filter_append, List.length_append]
  congr 1
  rw [List.filter_cons]
  by_cases e : q.1 = R
  · rw [if_pos (decide_eq_true e), if_pos e]; rfl
  · rw [if_neg (by simpa using e), if_neg e]; rfl
theorem ndc_cnL {nl : List Nd} {R : Nat} : ndc nl R nl.length = cnL nl R := by
  have h : ∀ n, n ≤ nl.length → ndc nl R n = cnL (nl.take n) R := by
    intro n
    induction n with
    | zero => intro _; rfl
    | succ n ih =>
      intro hn
      have hn' : n < nl.length := hn
      rw [List.take_succ_eq_append_getElem hn', cnL_app, ← ih (by omega)]
      have e : ng nl n = nl[n] := by unfold ng; rw [List.getD_eq_getElem?_getD, List.getElem?_eq_getElem hn']; rfl
      show (if (ng nl n).1 = R then ndc nl R n + 1 else ndc nl R n) = _
      rw [e]
      split <;> rfl
  rw [h _ (Nat.le_refl _), List.take_length]
theorem mem_adP {nl : List Nd} {R : Nat} {es : List Nat} {q : Nd} : ∀ k, q ∈ adP nl R es k ↔ q ∈ nl ∨ ∃ j, j < k ∧ q = (R, es.take (j + 1)) := by
  intro k
  induction k with
  | zero => exact ⟨Or.inl, fun h => h.elim id (fun ⟨j, hj, _⟩ => absurd hj (Nat.not_lt_zero _))⟩
  | succ k ih =>
    show q ∈ adP1 (adP nl R es k) (R, es.take (k + 1)) ↔ _
    unfold adP1
    split
    · next hs =>
      rw [ih]
      constructor
      · rintro (h | ⟨j, hj, e⟩)
        · exact Or.inl h
        · exact Or.inr ⟨j, by omega, e⟩
      · rintro (h | ⟨j, hj, e⟩)
        · exact Or.inl h
        · by_cases q1 : j = k
          · subst q1
            rw [e]
            exact ih.mp (by rw [e]; exact nix_mem.mp hs) |>.elim (fun w => Or.inl (e ▸ w)) (fun w => Or.inr (e ▸ w))
          · exact Or.inr ⟨j, by omega, e⟩
    · rw [List.mem_append, ih, List.mem_singleton]
      constructor
      · rintro ((h | ⟨j, hj, e⟩) | h)
        · exact Or.inl h
        · exact Or.inr ⟨j, by omega, e⟩
        · exact Or.inr ⟨k, by omega, h⟩
      · rintro (h | ⟨j, hj, e⟩)
        · exact Or.inl (Or.inl h)
        · by_cases q1 : j = k
          · subst q1; exact Or.inr e
          · exact Or.inl (Or.inr ⟨j, by omega, e⟩)
theorem cnL_adP {nl : List Nd} {R R2 : Nat} {es : List Nat} : ∀ k, k ≤ es.length → cnL (adP nl R es k) R2 = cnL nl R2 + if R = R2 then sumN (fun j => if (R, es.take (j + 1)) ∈ nl then 0 else 1) k else 0 := by
  intro k
  induction k with
  | zero => intro _; show cnL nl R2 = _; split <;> rfl
  | succ k ih =>
    intro hk
    have h1 : (R, es.take (k + 1)) ∈ adP nl R es k ↔ (R, es.take (k + 1)) ∈ nl := by
      rw [mem_adP]
      refine ⟨fun h => h.elim id (fun ⟨j, hj, e⟩ => ?_), Or.inl⟩
      have e2 := congrArg List.length (Prod.ext_iff.mp e).2
      rw [List.length_take, List.length_take] at e2
      omega
    show cnL (adP1 (adP nl R es k) (R, es.take (k + 1))) R2 = _
    unfold adP1
    by_cases hm : (R, es.take (k + 1)) ∈ nl
    · rw [if_pos (nix_mem.mpr (h1.mpr hm)), ih (by omega)]
      congr 1
      by_cases e : R = R2
      · rw [if_pos e, if_pos e]
        show _ = sumN _ k + (if (R, es.take (k + 1)) ∈ nl then 0 else 1)
        rw [if_pos hm]; rfl
      · rw [if_neg e, if_neg e]
    · rw [if_neg (fun w => hm (h1.mp (nix_mem.mp w))), cnL_app, ih (by omega)]
      by_cases e : R = R2
      · rw [if_pos e, if_pos e, if_pos e]
        show _ = cnL nl R2 + (sumN _ k + (if (R, es.take (k + 1)) ∈ nl then 0 else 1))
        rw [if_neg hm]; omega
      · rw [if_neg e, if_neg e, if_neg e]
theorem mem_nlG {B : Bk} {q : Nd} (hq : q.2 ≠ []) : ∀ i, q ∈ nlG B i ↔ ∃ a, a < i ∧ PSf B q a = true := by
  intro i
  induction i with
  | zero =>
    refine ⟨fun h => ?_, fun ⟨a, ha, _⟩ => absurd ha (Nat.not_lt_zero _)⟩
    exfalso
    unfold nlG roots at h
    simp only [List.mem_cons, List.not_mem_nil, or_false] at h
    rcases h with rfl | rfl | rfl <;> exact hq rfl
  | succ i ih =>
    unfold nlG
    by_cases ht : thN B i = true
    · rw [if_pos ht, mem_adP, ih]
      constructor
      · rintro (⟨a, ha, h⟩ | ⟨j, hj, e⟩)
        · exact ⟨a, by omega, h⟩
        · exact ⟨i, by omega, by rw [e]; exact PSf_take ht hj⟩
      · rintro ⟨a, ha, h⟩
        by_cases e : a = i
        · subst e
          have h2 := PSf_eq h
          unfold PSf at h
          simp only [Bool.and_eq_true, decide_eq_true_eq] at h
          have h3 := pre_len h.2.2.2
          have h4 : 0 < q.2.length := List.length_pos_iff.mpr hq
          exact Or.inr ⟨q.2.length - 1, by omega, by rw [show q.2.length - 1 + 1 = q.2.length by omega]; exact h2⟩
        · exact Or.inl ⟨a, by omega, h⟩
    · rw [if_neg ht, ih]
      constructor
      · rintro ⟨a, ha, h⟩; exact ⟨a, by omega, h⟩
      · rintro ⟨a, ha, h⟩
        by_cases e : a = i
        · subst e
          unfold PSf at h
          simp only [Bool.and_eq_true] at h
          exact absurd h.1 ht
        · exact ⟨a, by omega, h⟩
/-- alike so far -/
def bal (B : Bk) (a b n : Nat) : Bool := (decide (n ≤ (sg_ B a).length) && decide (n ≤ (sg_ B b).length)) && alB (likeF (sg_ B a) (sg_ B b)) 0 n
/-- a node that none ahead has -/
def nwB (B : Bk) (r n : Nat) : Bool := !decide (typ ((sg_ B r).getD (n - 1) 0) = 7) && (fst_ (fun a => th_ B a && (decide (ro_ B a = ro_ B r) && bal B a r n)) 0 r).isNone
def nwS (B : Bk) (r : Nat) : Nat := sumN (fun k => if nwB B r (k + 1) = true then 1 else 0) (sg_ B r).length
def nwT (B : Bk) (R : Nat) : Nat → Nat := sumN (fun r => if th_ B r = true ∧ ro_ B r = R then nwS B r else 0)
theorem typ_l7 {x : Nat} (h : sgv x) (h4 : x ≠ 40) : typ x < 7 := by
  unfold sgv at h; unfold typ
  split <;> omega
theorem bal_pre {B : Bk} {a r n : Nat} (ha : VS (sg_ B a)) (hr : VS (sg_ B r)) (hn : n ≤ (es_ B r).length) : bal B a r n = ((es_ B r).take n).isPrefixOf (es_ B a) := by
  have hlr := es_len B r
  have hla := es_len B a
  have hpr := pl_le (sg_ B r)
  have hpa := pl_le (sg_ B a)
  rw [Bool.eq_iff_iff]
  unfold bal
  simp only [Bool.and_eq_true, decide_eq_true_eq]
  constructor
  · rintro ⟨⟨h1, h2⟩, h3⟩
    rw [alB_t] at h3
    have h5 : n ≤ pl (sg_ B a) := by
      rcases VS_cut ha with q | ⟨q, q2⟩
      · omega
      · by_cases e : n ≤ pl (sg_ B a)
        · exact e
        · exfalso
          have h4 := h3 (pl (sg_ B a)) (Nat.zero_le _) (by omega)
          have h4 := of_decide_eq_true h4
          rw [q2] at h4
          have hv := hr.plain (k := pl (sg_ B a)) (by omega)
          have h6 := typ_l7 hv.1 hv.2
          rw [← h4] at h6
          exact absurd h6 (by decide)
    refine List.isPrefixOf_iff_prefix.mpr (List.prefix_iff_eq_take.mpr ?_)
    refine List.ext_getElem (by simp; omega) (fun k hk1 hk2 => ?_)
    rw [List.length_take] at hk1
    rw [List.length_take] at hk2
    rw [List.getElem_take, List.getElem_take]
    have g1 := es_get hr (k := k) (by omega)
    have g2 := es_get ha (k := k) (by omega)
    rw [List.getD_eq_getElem?_getD, List.getElem?_eq_getElem (by omega)] at g1 g2
    have h4 := of_decide_eq_true (h3 k (Nat.zero_le _) (by omega))
    exact g1.trans (h4.symm.trans g2.symm)
  · intro h
    have h1 := List.isPrefixOf_iff_prefix.mp h
    have h2 := h1.length_le
    rw [List.length_take] at h2
    refine ⟨⟨by omega, by omega⟩, alB_t.mpr (fun k _ hk => decide_eq_true ?_)⟩
    have g1 := es_get hr (k := k) (by omega)
    have g2 := es_get ha (k := k) (by omega)
    rw [← g1, ← g2]
    have h3 := List.prefix_iff_eq_take.mp h1
    have e1 : ((es_ B r).take n).getD k 0 = (es_ B r).getD k 0 := by
      rw [List.getD_eq_getElem?_getD, List.getElem?_take, if_pos (by omega), List.getD_eq_getElem?_getD]
    have e2 := congrArg (fun l => l.getD k 0) h3
    rw [← e1, e2, List.getD_eq_getElem?_getD, List.getD_eq_getElem?_getD, List.getElem?_take, if_pos (by rw [List.length_take]; omega)]
theorem nw_mem {B : Bk} (hV : VB B) {r j : Nat} (hr : r < cm_ B) (hj : j < (es_ B r).length) : nwB B r (j + 1) = true ↔ ¬ (ro_ B r, (es_ B r).take (j + 1)) ∈ nlG B r := by
  have hvr := (hV.2.2 r hr).2.1
  have hne : (es_ B r).take (j + 1) ≠ [] := by
    intro e
    have := congrArg List.length e
    rw [List.length_take] at this
    have e2 : ([] : List Nat).length = 0 := rfl
    omega
  rw [mem_nlG (q := (ro_ B r, (es_ B r).take (j + 1))) hne]
  have h7 : ¬ typ ((sg_ B r).getD (j + 1 - 1) 0) = 7 := by
    have hl := es_len B r
    have := hvr.plain (k := j) (by omega)
    have := typ_l7 this.1 this.2
    rw [Nat.add_sub_cancel]; omega
  unfold nwB
  rw [decide_eq_false h7]
  show (true && _) = true ↔ _
  rw [Bool.true_and]
  have e : ∀ a, a < r → (th_ B a && (decide (ro_ B a = ro_ B r) && bal B a r (j + 1))) = PSf B (ro_ B r, (es_ B r).take (j + 1)) a := by
    intro a ha
    unfold PSf thN
    rw [decide_eq_true (show a < cm_ B by omega), Bool.true_and, decide_eq_true (show (ro_ B r, (es_ B r).take (j + 1)).2 ≠ [] from hne), Bool.true_and, bal_pre (hV.2.2 a (by omega)).2.1 hvr (by omega)]
  rw [fst_congr (fun x _ hx => e x (by omega))]
  constructor
  · rintro h ⟨a, ha, h2⟩
    cases hf : fst_ (fun x => PSf B (ro_ B r, (es_ B r).take (j + 1)) x) 0 r with
    | some k => rw [hf] at h; cases h
    | none => rw [fst_none hf a (Nat.zero_le _) (by omega)] at h2; cases h2
  · intro h
    rw [fst_intro_none (fun x _ hx => ?_)]
    · rfl
    · cases hp : PSf B (ro_ B r, (es_ B r).take (j + 1)) x with
      | false => rfl
      | true => exact absurd ⟨x, by omega, hp⟩ h
theorem nwS_eq {B : Bk} (hV : VB B) {r : Nat} (hr : r < cm_ B) : nwS B r = sumN (fun j => if (ro_ B r, (es_ B r).take (j + 1)) ∈ nlG B r then 0 else 1) (es_ B r).length := by
  have hl := es_len B r
  have hp := pl_le (sg_ B r)
  unfold nwS
  refine (sumN_ext (sg_ B r).length (by omega) (fun k hk => ?_) (fun k hk hk2 => ?_)).symm
  · by_cases h : (ro_ B r, (es_ B r).take (k + 1)) ∈ nlG B r
    · rw [if_pos h, if_neg (fun w => (nw_mem hV hr hk).mp w h)]
    · rw [if_neg h, if_pos ((nw_mem hV hr hk).mpr h)]
  · rcases VS_cut (hV.2.2 r hr).2.1 with q | ⟨q, q2⟩
    · omega
    · refine if_neg (fun w => ?_)
      unfold nwB at w
      rw [Nat.add_sub_cancel, show k = pl (sg_ B r) by omega, q2] at w
      exact absurd w (by simp [typ])
theorem nl_cnt {B : Bk} (hV : VB B) {R : Nat} (hR : R < 3) : ∀ i, cnL (nlG B i) R = 1 + sumN (fun r => if thN B r = true ∧ ro_ B r = R then nwS B r else 0) i := by
  intro i
  induction i with
  | zero =>
    match R, hR with
    | 0, _ => rfl
    | 1, _ => rfl
    | 2, _ => rfl
  | succ i ih =>
    show cnL (nlG B (i + 1)) R = 1 + (sumN _ i + if thN B i = true ∧ ro_ B i = R then nwS B i else 0)
    unfold nlG
    by_cases ht : thN B i = true
    · have hic : i < cm_ B := by unfold thN at ht; simp only [Bool.and_eq_true, decide_eq_true_eq] at ht; exact ht.1
      rw [if_pos ht, cnL_adP _ (Nat.le_refl _), ih]
      by_cases e : ro_ B i = R
      · rw [if_pos e, if_pos ⟨ht, e⟩, nwS_eq hV hic]; omega
      · rw [if_neg e, if_neg (fun w => e w.2)]; omega
    · rw [if_neg ht, ih, if_neg (fun w => ht w.1)]; omega
theorem nodes_eq {B : Bk} (hV : VB B) {R : Nat} (hR : R < 3) : 1 + nwT B R (cm_ B) = ndc (nlG B 10) R (nlG B 10).length := by
  rw [ndc_cnL, nl_cnt hV hR]
  congr 1
  refine sumN_ext 10 hV.2.1 (fun k hk => ?_) (fun k hk _ => ?_)
  · unfold thN
    rw [decide_eq_true hk, Bool.true_and]
  · refine if_neg (fun w => ?_)
    unfold thN at w
    rw [decide_eq_false (by omega : ¬ k < cm_ B)] at w
    simp at w
theorem cnL_all {nl : List Nd} (h : ∀ x ∈ nl, x.1 < 3) : cnL nl 0 + cnL nl 1 + cnL nl 2 = nl.length := by
  induction nl with
  | nil => rfl
  | cons x nl ih =>
    have h1 := ih (fun y hy => h y (List.mem_cons_of_mem _ hy))
    have h2 := h x List.mem_cons_self
    have e : ∀ R, cnL (x :: nl) R = cnL nl R + if x.1 = R then 1 else 0 := by
      intro R
      unfold cnL
      rw [List.filter_cons]
      by_cases e : x.1 = R
      · rw [if_pos (decide_eq_true e), if_pos e]; rfl
      · rw [if_neg (by simpa using e), if_neg e]; rfl
    rw [e, e, e, List.length_cons]
    have : x.1 = 0 ∨ x.1 = 1 ∨ x.1 = 2 := by omega
    rcases this with q | q | q <;> rw [q] <;> simp <;> omega
theorem dX8_beginAlike_0 : decode cX8_beginAlike 0 = .ok (.aload_n 0, 1) := by decide +kernel
theorem dX8_beginAlike_1 : decode cX8_beginAlike 1 = .ok (.getfield 31, 3) := by decide +kernel
theorem dX8_beginAlike_4 : decode cX8_beginAlike 4 = .ok (.iload_n 1, 1) := by decide +kernel
theorem dX8_beginAlike_5 : decode cX8_beginAlike 5 = .ok (.iaload, 1) := by decide +kernel
theorem dX8_beginAlike_6 : decode cX8_beginAlike 6 = .ok (.iload_n 3, 1) := by decide +kernel
theorem dX8_beginAlike_7 : decode cX8_beginAlike 7 = .ok (.if_icmp .lt 17, 3) := by decide +kernel
theorem dX8_beginAlike_10 : decode cX8_beginAlike 10 = .ok (.aload_n 0, 1) := by decide +kernel
theorem dX8_beginAlike_11 : decode cX8_beginAlike 11 = .ok (.getfield 31, 3) := by decide +kernel
theorem dX8_beginAlike_14 : decode cX8_beginAlike 14 = .ok (.iload_n 2, 1) := by decide +kernel
theorem dX8_beginAlike_15 : decode cX8_beginAlike 15 = .ok (.iaload, 1) := by decide +kernel
theorem dX8_beginAlike_16 : decode cX8_beginAlike 16 = .ok (.iload_n 3, 1) := by decide +kernel
theorem dX8_beginAlike_17 : decode cX8_beginAlike 17 = .ok (.if_icmp .lt 7, 3) := by decide +kernel
theorem dX8_beginAlike_20 : decode cX8_beginAlike 20 = .ok (.iconst 1, 1) := by decide +kernel
theorem dX8_beginAlike_21 : decode cX8_beginAlike 21 = .ok (.goto 4, 3) := by decide +kernel
theorem dX8_beginAlike_24 : decode cX8_beginAlike 24 = .ok (.iconst 0, 1) := by decide +kernel
theorem dX8_beginAlike_25 : decode cX8_beginAlike 25 = .ok (.istore 4, 2) := by decide +kernel
theorem dX8_beginAlike_27 : decode cX8_beginAlike 27 = .ok (.iconst 0, 1) := by decide +kernel
theorem dX8_beginAlike_28 : decode cX8_beginAlike 28 = .ok (.istore 5, 2) := by decide +kernel
theorem dX8_beginAlike_30 : decode cX8_beginAlike 30 = .ok (.iload 5, 2) := by decide +kernel
theorem dX8_beginAlike_32 : decode cX8_beginAlike 32 = .ok (.iload_n 3, 1) := by decide +kernel
theorem dX8_beginAlike_33 : decode cX8_beginAlike 33 = .ok (.if_icmp .ge 38, 3) := by decide +kernel
theorem dX8_beginAlike_36 : decode cX8_beginAlike 36 = .ok (.iload 4, 2) := by decide +kernel
theorem dX8_beginAlike_38 : decode cX8_beginAlike 38 = .ok (.ifCond .eq 33, 3) := by decide +kernel
theorem dX8_beginAlike_41 : decode cX8_beginAlike 41 = .ok (.aload_n 0, 1) := by decide +kernel
theorem dX8_beginAlike_42 : decode cX8_beginAlike 42 = .ok (.iload_n 1, 1) := by decide +kernel
theorem dX8_beginAlike_43 : decode cX8_beginAlike 43 = .ok (.iload 5, 2) := by decide +kernel
theorem dX8_beginAlike_45 : decode cX8_beginAlike 45 = .ok (.invokevirtual 119, 3) := by decide +kernel
theorem dX8_beginAlike_48 : decode cX8_beginAlike 48 = .ok (.aload_n 0, 1) := by decide +kernel
theorem dX8_beginAlike_49 : decode cX8_beginAlike 49 = .ok (.iload_n 2, 1) := by decide +kernel
theorem dX8_beginAlike_50 : decode cX8_beginAlike 50 = .ok (.iload 5, 2) := by decide +kernel
theorem dX8_beginAlike_52 : decode cX8_beginAlike 52 = .ok (.invokevirtual 119, 3) := by decide +kernel
theorem dX8_beginAlike_55 : decode cX8_beginAlike 55 = .ok (.if_icmp .ne 7, 3) := by decide +kernel
theorem dX8_beginAlike_58 : decode cX8_beginAlike 58 = .ok (.iconst 1, 1) := by decide +kernel
theorem dX8_beginAlike_59 : decode cX8_beginAlike 59 = .ok (.goto 4, 3) := by decide +kernel
theorem dX8_beginAlike_62 : decode cX8_beginAlike 62 = .ok (.iconst 0, 1) := by decide +kernel
theorem dX8_beginAlike_63 : decode cX8_beginAlike 63 = .ok (.istore 4, 2) := by decide +kernel
theorem dX8_beginAlike_65 : decode cX8_beginAlike 65 = .ok (.iinc 5 1, 3) := by decide +kernel
theorem dX8_beginAlike_68 : decode cX8_beginAlike 68 = .ok (.goto (-38), 3) := by decide +kernel
theorem dX8_beginAlike_71 : decode cX8_beginAlike 71 = .ok (.iload 4, 2) := by decide +kernel
theorem dX8_beginAlike_73 : decode cX8_beginAlike 73 = .ok (.ireturn, 1) := by decide +kernel
theorem lp_X8_beginAlike {a b n : Nat} {B : Bk} {T : Nat → Bool} {K F : Nat → Nat} {D : Mem} (h : RB D B T K F) (hV : VB B) (ha : a < cm_ B) (hb : b < cm_ B) (hn : n < 1000) : ∀ (m : Nat) (i : Nat) (f : Bool), i + m = n → (f = true → n ≤ (sg_ B a).length ∧ n ≤ (sg_ B b).length) → X 2 138 j_X8_beginAlike 30 [some (.ref 104), some (.int (nI a)), some (.int (nI b)), some (.int (nI n)), some (.int (b2i f)), some (.int (nI i))] [] (138, P0, D) (fun x σ => x = [.int (b2i (f && alB (likeF (sg_ B a) (sg_ B b)) i m))] ∧ σ = wd D) := by
  intro m
  induction m with
  | zero =>
    intro i f hi hf
    obtain ⟨hB1, hB2, hB3⟩ := id h
    have hcm := hV.2.1
    refine X_iload (nx := 32) dX8_beginAlike_30 rfl rfl ?_
    refine X_iload_n (nx := 33) dX8_beginAlike_32 rfl rfl rfl ?_
    refine X_icmp_ge (tgt := 71) (nx := 36) dX8_beginAlike_33 rfl rfl (fun h33 => ?_) (fun h33 => ?_)
    · skip
      refine X_iload (nx := 73) dX8_beginAlike_71 rfl rfl ?_
      exact Y_reti dX8_beginAlike_73 (Or.inr ⟨rfl, by first | exact Or.inl rfl | exact Or.inr rfl | exact b2i_01 _ | assumption⟩) (by rw [show alB (likeF (sg_ B a) (sg_ B b)) i 0 = true from rfl, Bool.and_true]) rfl
    · exact absurd h33 (fun q => q (nI_le (by omega) (by omega)))
  | succ m ih =>
    intro i f hi hf
    obtain ⟨hB1, hB2, hB3⟩ := id h
    have hcm := hV.2.1
    refine X_iload (nx := 32) dX8_beginAlike_30 rfl rfl ?_
    refine X_iload_n (nx := 33) dX8_beginAlike_32 rfl rfl rfl ?_
    refine X_icmp_ge (tgt := 71) (nx := 36) dX8_beginAlike_33 rfl rfl (fun h33 => ?_) (fun h33 => ?_)
    · exact absurd h33 (nI_ge (by omega) (by omega))
    · skip
      refine X_iload (nx := 38) dX8_beginAlike_36 rfl rfl ?_
      refine X_if_eq (tgt := 71) (nx := 41) dX8_beginAlike_38 rfl rfl (fun h38 => ?_) (fun h38 => ?_)
      · skip
        have e38 := b2i_f.mp h38
        subst e38
        refine X_iload (nx := 73) dX8_beginAlike_71 rfl rfl ?_
        exact Y_reti dX8_beginAlike_73 (Or.inr ⟨rfl, by first | exact Or.inl rfl | exact Or.inr rfl | exact b2i_01 _ | assumption⟩) (by rfl) rfl
      · skip
        have e38 := b2i_t.mp h38
        subst e38
        obtain ⟨hna, hnb⟩ := hf rfl
        have t1 := typ_lt (sg_le hV ha (i := i) (by omega))
        have t2 := typ_lt (sg_le hV hb (i := i) (by omega))
        refine X_aload_n (nx := 42) dX8_beginAlike_41 rfl rfl rfl ?_
        refine X_iload_n (nx := 43) dX8_beginAlike_42 rfl rfl rfl ?_
        refine X_iload (nx := 45) dX8_beginAlike_43 rfl rfl ?_
        refine Y_Vi2 (nx := 48) dX8_beginAlike_45 rfl ml_RX8_119 kj_X8_typeOf kv_X8_typeOf (sp_X8_typeOf h hV rfl ha rfl (by omega)) (by first | assumption | rfl | decide | omega) (by first | assumption | rfl | decide | omega) (by decide) rfl (by first | decide | omega) (by exact Nat.le_of_ble_eq_true rfl) ?_
        refine X_aload_n (nx := 49) dX8_beginAlike_48 rfl rfl rfl ?_
        refine X_iload_n (nx := 50) dX8_beginAlike_49 rfl rfl rfl ?_
        refine X_iload (nx := 52) dX8_beginAlike_50 rfl rfl ?_
        refine Y_Vi2 (nx := 55) dX8_beginAlike_52 rfl ml_RX8_119 kj_X8_typeOf kv_X8_typeOf (sp_X8_typeOf h hV rfl hb rfl (by omega)) (by first | assumption | rfl | decide | omega) (by first | assumption | rfl | decide | omega) (by decide) rfl (by first | decide | omega) (by exact Nat.le_of_ble_eq_true rfl) ?_
        refine X_icmp_ne (tgt := 62) (nx := 58) dX8_beginAlike_55 rfl rfl (fun h55 => ?_) (fun h55 => ?_)
        · skip
          rw [nI_eq (by omega) (by omega)] at h55
          have hz : likeF (sg_ B a) (sg_ B b) i = false := decide_eq_false h55
          rw [al_0 hz]
          refine X_iconst (v := 0) (nx := 63) dX8_beginAlike_62 rfl rfl ?_
          refine X_istore (i := 4) (nx := 65) dX8_beginAlike_63 rfl (by decide) rfl (st_s (st_s (st_s (st_s (st_0))))) ?_
          refine X_iinc (nx := 68) dX8_beginAlike_65 rfl (by decide) rfl (by first | exact ii1 _ | rfl) rfl (st_s (st_s (st_s (st_s (st_s (st_0)))))) ?_
          refine X_goto (tgt := 30) dX8_beginAlike_68 rfl ?_
          first
            | exact ih (i + 1) true (by omega) (fun _ => ⟨hna, hnb⟩)
            | (have e := ih (i + 1) false (by omega) (fun q => by cases q)
               exact e)
        · skip
          rw [nI_eq (by omega) (by omega)] at h55
          have hz : likeF (sg_ B a) (sg_ B b) i = true := decide_eq_true h55
          rw [al_1 hz]
          refine X_iconst (v := 1) (nx := 59) dX8_beginAlike_58 rfl rfl ?_
          refine X_goto (tgt := 63) dX8_beginAlike_59 rfl ?_
          refine X_istore (i := 4) (nx := 65) dX8_beginAlike_63 rfl (by decide) rfl (st_s (st_s (st_s (st_s (st_0))))) ?_
          refine X_iinc (nx := 68) dX8_beginAlike_65 rfl (by decide) rfl (by first | exact ii1 _ | rfl) rfl (st_s (st_s (st_s (st_s (st_s (st_0)))))) ?_
          refine X_goto (tgt := 30) dX8_beginAlike_68 rfl ?_
          first
            | exact ih (i + 1) true (by omega) (fun _ => ⟨hna, hnb⟩)
            | (have e := ih (i + 1) false (by omega) (fun q => by cases q)
               exact e)
theorem sp_X8_beginAlike {a b n : Nat} {x y z : Int32} {B : Bk} {T : Nat → Bool} {K F : Nat → Nat} {D : Mem} (h : RB D B T K F) (hV : VB B) (hx : x = nI a) (ha : a < cm_ B) (hy : y = nI b) (hb : b < cm_ B) (hz : z = nI n) (hn : n < 1000) : Ei 2 j_X8_beginAlike [.ref 104, .int x, .int y, .int z] D (b2i (bal B a b n)) (D) := by
  refine E.start 2 (ls := [some (.ref 104), some (.int x), some (.int y), some (.int z), none, none]) (by decide +kernel) (Nat.le_of_ble_eq_true rfl) rfl (Nat.le_refl _) (Nat.le_refl _) ?_
  subst hx; subst hy; subst hz
  have hcm := hV.2.1
  have la := sgl_le hV ha
  have lb := sgl_le hV hb
  refine X_aload_n (nx := 1) dX8_beginAlike_0 rfl rfl rfl ?_
  refine M_getP (nx := 4) dX8_beginAlike_1 rfl fl_RX8_31 rfl (by first | assumption | rfl | decide | omega) (by first | assumption | rfl | decide | omega) (by first | assumption | rfl | decide | omega) ?_
  refine X_iload_n (nx := 5) dX8_beginAlike_4 rfl rfl rfl ?_
  refine M_ld (a := 112) (L := 10) (nx := 6) dX8_beginAlike_5 rfl (by decide) (by decide) rfl (by decide) (by omega) ((h.2.2 a ha).2.2.2.2.1) ?_
  refine X_iload_n (nx := 7) dX8_beginAlike_6 rfl rfl rfl ?_
  refine X_icmp_lt (tgt := 24) (nx := 10) dX8_beginAlike_7 rfl rfl (fun h7 => ?_) (fun h7 => ?_)
  · skip
    rw [nI_ltI (by omega) (by omega)] at h7
    refine X_iconst (v := 0) (nx := 25) dX8_beginAlike_24 rfl rfl ?_
    refine X_istore (i := 4) (nx := 27) dX8_beginAlike_25 rfl (by decide) rfl (st_s (st_s (st_s (st_s (st_0))))) ?_
    refine X_iconst (v := nI 0) (nx := 28) dX8_beginAlike_27 rfl rfl ?_
    refine X_istore (i := 5) (nx := 30) dX8_beginAlike_28 rfl (by decide) rfl (st_s (st_s (st_s (st_s (st_s (st_0)))))) ?_
    unfold bal
    first
    | (rw [decide_eq_true (show n ≤ (sg_ B a).length by omega), decide_eq_true (show n ≤ (sg_ B b).length by omega)]
       exact lp_X8_beginAlike h hV ha hb hn n 0 true (Nat.zero_add _) (fun _ => ⟨by omega, by omega⟩))
    | (rw [show (decide (n ≤ (sg_ B a).length) && decide (n ≤ (sg_ B b).length)) = false from dec_f (by omega)]
       exact lp_X8_beginAlike h hV ha hb hn n 0 false (Nat.zero_add _) (fun q => by cases q))
  · skip
    rw [nI_ltI (by omega) (by omega)] at h7
    refine X_aload_n (nx := 11) dX8_beginAlike_10 rfl rfl rfl ?_
    refine M_getP (nx := 14) dX8_beginAlike_11 rfl fl_RX8_31 rfl (by first | assumption | rfl | decide | omega) (by first | assumption | rfl | decide | omega) (by first | assumption | rfl | decide | omega) ?_
    refine X_iload_n (nx := 15) dX8_beginAlike_14 rfl rfl rfl ?_
    refine M_ld (a := 112) (L := 10) (nx := 16) dX8_beginAlike_15 rfl (by decide) (by decide) rfl (by decide) (by omega) ((h.2.2 b hb).2.2.2.2.1) ?_
    refine X_iload_n (nx := 17) dX8_beginAlike_16 rfl rfl rfl ?_
    refine X_icmp_lt (tgt := 24) (nx := 20) dX8_beginAlike_17 rfl rfl (fun h17 => ?_) (fun h17 => ?_)
    · skip
      rw [nI_ltI (by omega) (by omega)] at h17
      refine X_iconst (v := 0) (nx := 25) dX8_beginAlike_24 rfl rfl ?_
      refine X_istore (i := 4) (nx := 27) dX8_beginAlike_25 rfl (by decide) rfl (st_s (st_s (st_s (st_s (st_0))))) ?_
      refine X_iconst (v := nI 0) (nx := 28) dX8_beginAlike_27 rfl rfl ?_
      refine X_istore (i := 5) (nx := 30) dX8_beginAlike_28 rfl (by decide) rfl (st_s (st_s (st_s (st_s (st_s (st_0)))))) ?_
      unfold bal
      first
      | (rw [decide_eq_true (show n ≤ (sg_ B a).length by omega), decide_eq_true (show n ≤ (sg_ B b).length by omega)]
         exact lp_X8_beginAlike h hV ha hb hn n 0 true (Nat.zero_add _) (fun _ => ⟨by omega, by omega⟩))
      | (rw [show (decide (n ≤ (sg_ B a).length) && decide (n ≤ (sg_ B b).length)) = false from dec_f (by omega)]
         exact lp_X8_beginAlike h hV ha hb hn n 0 false (Nat.zero_add _) (fun q => by cases q))
    · skip
      rw [nI_ltI (by omega) (by omega)] at h17
      refine X_iconst (v := 1) (nx := 21) dX8_beginAlike_20 rfl rfl ?_
      refine X_goto (tgt := 25) dX8_beginAlike_21 rfl ?_
      refine X_istore (i := 4) (nx := 27) dX8_beginAlike_25 rfl (by decide) rfl (st_s (st_s (st_s (st_s (st_0))))) ?_
      refine X_iconst (v := nI 0) (nx := 28) dX8_beginAlike_27 rfl rfl ?_
      refine X_istore (i := 5) (nx := 30) dX8_beginAlike_28 rfl (by decide) rfl (st_s (st_s (st_s (st_s (st_s (st_0)))))) ?_
      unfold bal
      first
      | (rw [decide_eq_true (show n ≤ (sg_ B a).length by omega), decide_eq_true (show n ≤ (sg_ B b).length by omega)]
         exact lp_X8_beginAlike h hV ha hb hn n 0 true (Nat.zero_add _) (fun _ => ⟨by omega, by omega⟩))
      | (rw [show (decide (n ≤ (sg_ B a).length) && decide (n ≤ (sg_ B b).length)) = false from dec_f (by omega)]
         exact lp_X8_beginAlike h hV ha hb hn n 0 false (Nat.zero_add _) (fun q => by cases q))
theorem dX8_isNewNode_0 : decode cX8_isNewNode 0 = .ok (.aload_n 0, 1) := by decide +kernel
theorem dX8_isNewNode_1 : decode cX8_isNewNode 1 = .ok (.iload_n 1, 1) := by decide +kernel
theorem dX8_isNewNode_2 : decode cX8_isNewNode 2 = .ok (.iload_n 2, 1) := by decide +kernel
theorem dX8_isNewNode_3 : decode cX8_isNewNode 3 = .ok (.iconst 1, 1) := by decide +kernel
theorem dX8_isNewNode_4 : decode cX8_isNewNode 4 = .ok (.isub, 1) := by decide +kernel
theorem dX8_isNewNode_5 : decode cX8_isNewNode 5 = .ok (.invokevirtual 119, 3) := by decide +kernel
theorem dX8_isNewNode_8 : decode cX8_isNewNode 8 = .ok (.bipush 7, 2) := by decide +kernel
theorem dX8_isNewNode_10 : decode cX8_isNewNode 10 = .ok (.if_icmp .ne 5, 3) := by decide +kernel
theorem dX8_isNewNode_13 : decode cX8_isNewNode 13 = .ok (.iconst 0, 1) := by decide +kernel
theorem dX8_isNewNode_14 : decode cX8_isNewNode 14 = .ok (.ireturn, 1) := by decide +kernel
theorem dX8_isNewNode_15 : decode cX8_isNewNode 15 = .ok (.iconst 0, 1) := by decide +kernel
theorem dX8_isNewNode_16 : decode cX8_isNewNode 16 = .ok (.istore_n 3, 1) := by decide +kernel
theorem dX8_isNewNode_17 : decode cX8_isNewNode 17 = .ok (.iload_n 3, 1) := by decide +kernel
theorem dX8_isNewNode_18 : decode cX8_isNewNode 18 = .ok (.iload_n 1, 1) := by decide +kernel
theorem dX8_isNewNode_19 : decode cX8_isNewNode 19 = .ok (.if_icmp .ge 46, 3) := by decide +kernel
theorem dX8_isNewNode_22 : decode cX8_isNewNode 22 = .ok (.aload_n 0, 1) := by decide +kernel
theorem dX8_isNewNode_23 : decode cX8_isNewNode 23 = .ok (.getfield 19, 3) := by decide +kernel
theorem dX8_isNewNode_26 : decode cX8_isNewNode 26 = .ok (.iload_n 3, 1) := by decide +kernel
theorem dX8_isNewNode_27 : decode cX8_isNewNode 27 = .ok (.iaload, 1) := by decide +kernel
theorem dX8_isNewNode_28 : decode cX8_isNewNode 28 = .ok (.iconst 1, 1) := by decide +kernel
theorem dX8_isNewNode_29 : decode cX8_isNewNode 29 = .ok (.if_icmp .ne 30, 3) := by decide +kernel
theorem dX8_isNewNode_32 : decode cX8_isNewNode 32 = .ok (.aload_n 0, 1) := by decide +kernel
theorem dX8_isNewNode_33 : decode cX8_isNewNode 33 = .ok (.getfield 22, 3) := by decide +kernel
theorem dX8_isNewNode_36 : decode cX8_isNewNode 36 = .ok (.iload_n 3, 1) := by decide +kernel
theorem dX8_isNewNode_37 : decode cX8_isNewNode 37 = .ok (.iaload, 1) := by decide +kernel
theorem dX8_isNewNode_38 : decode cX8_isNewNode 38 = .ok (.aload_n 0, 1) := by decide +kernel
theorem dX8_isNewNode_39 : decode cX8_isNewNode 39 = .ok (.getfield 22, 3) := by decide +kernel
theorem dX8_isNewNode_42 : decode cX8_isNewNode 42 = .ok (.iload_n 1, 1) := by decide +kernel
theorem dX8_isNewNode_43 : decode cX8_isNewNode 43 = .ok (.iaload, 1) := by decide +kernel
theorem dX8_isNewNode_44 : decode cX8_isNewNode 44 = .ok (.if_icmp .ne 15, 3) := by decide +kernel
theorem dX8_isNewNode_47 : decode cX8_isNewNode 47 = .ok (.aload_n 0, 1) := by decide +kernel
theorem dX8_isNewNode_48 : decode cX8_isNewNode 48 = .ok (.iload_n 3, 1) := by decide +kernel
theorem dX8_isNewNode_49 : decode cX8_isNewNode 49 = .ok (.iload_n 1, 1) := by decide +kernel
theorem dX8_isNewNode_50 : decode cX8_isNewNode 50 = .ok (.iload_n 2, 1) := by decide +kernel
theorem dX8_isNewNode_51 : decode cX8_isNewNode 51 = .ok (.invokevirtual 299, 3) := by decide +kernel
theorem dX8_isNewNode_54 : decode cX8_isNewNode 54 = .ok (.ifCond .eq 5, 3) := by decide +kernel
theorem dX8_isNewNode_57 : decode cX8_isNewNode 57 = .ok (.iconst 0, 1) := by decide +kernel
theorem dX8_isNewNode_58 : decode cX8_isNewNode 58 = .ok (.ireturn, 1) := by decide +kernel
theorem dX8_isNewNode_59 : decode cX8_isNewNode 59 = .ok (.iinc 3 1, 3) := by decide +kernel
theorem dX8_isNewNode_62 : decode cX8_isNewNode 62 = .ok (.goto (-45), 3) := by decide +kernel
theorem dX8_isNewNode_65 : decode cX8_isNewNode 65 = .ok (.iconst 1, 1) := by decide +kernel
theorem dX8_isNewNode_66 : decode cX8_isNewNode 66 = .ok (.ireturn, 1) := by decide +kernel
theorem lp_X8_isNewNode {r n : Nat} {B : Bk} {K F : Nat → Nat} {D : Mem} (h : RB D B (th_ B) K F) (hV : VB B) (hr : r < cm_ B) (hn : n < 1000) : ∀ (m : Nat) (i : Nat), i + m = r → X 3 138 j_X8_isNewNode 17 [some (.ref 104), some (.int (nI r)), some (.int (nI n)), some (.int (nI i))] [] (138, P0, D) (fun x σ => x = [.int (b2i (fst_ (fun a => th_ B a && (decide (ro_ B a = ro_ B r) && bal B a r n)) i m).isNone)] ∧ σ = wd D) := by
  intro m
  induction m with
  | zero =>
    intro i hi
    obtain ⟨hB1, hB2, hB3⟩ := id h
    have hcm := hV.2.1
    refine X_iload_n (nx := 18) dX8_isNewNode_17 rfl rfl rfl ?_
    refine X_iload_n (nx := 19) dX8_isNewNode_18 rfl rfl rfl ?_
    refine X_icmp_ge (tgt := 65) (nx := 22) dX8_isNewNode_19 rfl rfl (fun h19 => ?_) (fun h19 => ?_)
    · skip
      refine X_iconst (v := 1) (nx := 66) dX8_isNewNode_65 rfl rfl ?_
      exact Y_reti dX8_isNewNode_66 (Or.inr ⟨rfl, by first | exact Or.inl rfl | exact Or.inr rfl | exact b2i_01 _ | assumption⟩) rfl rfl
    · exact absurd h19 (fun q => q (nI_le (by omega) (by omega)))
  | succ m ih =>
    intro i hi
    obtain ⟨hB1, hB2, hB3⟩ := id h
    have hcm := hV.2.1
    have hic : i < cm_ B := by omega
    have ro1 := (hV.2.2 i hic).1
    have ro2 := (hV.2.2 r hr).1
    refine X_iload_n (nx := 18) dX8_isNewNode_17 rfl rfl rfl ?_
    refine X_iload_n (nx := 19) dX8_isNewNode_18 rfl rfl rfl ?_
    refine X_icmp_ge (tgt := 65) (nx := 22) dX8_isNewNode_19 rfl rfl (fun h19 => ?_) (fun h19 => ?_)
    · exact absurd h19 (nI_ge (by omega) (by omega))
    · skip
      refine X_aload_n (nx := 23) dX8_isNewNode_22 rfl rfl rfl ?_
      refine M_getP (nx := 26) dX8_isNewNode_23 rfl fl_RX8_19 rfl (by first | assumption | rfl | decide | omega) (by first | assumption | rfl | decide | omega) (by first | assumption | rfl | decide | omega) ?_
      refine X_iload_n (nx := 27) dX8_isNewNode_26 rfl rfl rfl ?_
      refine M_ld (a := 108) (L := 10) (nx := 28) dX8_isNewNode_27 rfl (by decide) (by decide) rfl (by decide) (by omega) ((hB3 i (by omega)).1) ?_
      refine X_iconst (v := 1) (nx := 29) dX8_isNewNode_28 rfl rfl ?_
      refine X_icmp_ne (tgt := 59) (nx := 32) dX8_isNewNode_29 rfl rfl (fun h29 => ?_) (fun h29 => ?_)
      · skip
        have hz : (fun a => th_ B a && (decide (ro_ B a = ro_ B r) && bal B a r n)) i = false := by cases hT : th_ B i; (show (th_ B i && _) = false; rw [hT]; rfl); exact absurd (b2i_1.mpr hT) h29
        rw [fst_step hz]
        refine X_iinc (nx := 62) dX8_isNewNode_59 rfl (by decide) rfl (by first | exact ii1 _ | rfl) rfl (st_s (st_s (st_s (st_0)))) ?_
        refine X_goto (tgt := 17) dX8_isNewNode_62 rfl ?_
        exact ih (i + 1) (by omega)
      · skip
        refine X_aload_n (nx := 33) dX8_isNewNode_32 rfl rfl rfl ?_
        refine M_getP (nx := 36) dX8_isNewNode_33 rfl fl_RX8_22 rfl (by first | assumption | rfl | decide | omega) (by first | assumption | rfl | decide | omega) (by first | assumption | rfl | decide | omega) ?_
        refine X_iload_n (nx := 37) dX8_isNewNode_36 rfl rfl rfl ?_
        refine M_ld (a := 109) (L := 10) (nx := 38) dX8_isNewNode_37 rfl (by decide) (by decide) rfl (by decide) (by omega) ((hB3 i (by omega)).2.1) ?_
        refine X_aload_n (nx := 39) dX8_isNewNode_38 rfl rfl rfl ?_
        refine M_getP (nx := 42) dX8_isNewNode_39 rfl fl_RX8_22 rfl (by first | assumption | rfl | decide | omega) (by first | assumption | rfl | decide | omega) (by first | assumption | rfl | decide | omega) ?_
        refine X_iload_n (nx := 43) dX8_isNewNode_42 rfl rfl rfl ?_
        refine M_ld (a := 109) (L := 10) (nx := 44) dX8_isNewNode_43 rfl (by decide) (by decide) rfl (by decide) (by omega) ((hB3 r hr).2.1) ?_
        refine X_icmp_ne (tgt := 59) (nx := 47) dX8_isNewNode_44 rfl rfl (fun h44 => ?_) (fun h44 => ?_)
        · skip
          rw [nI_eq (by omega) (by omega)] at h44
          have hz : (fun a => th_ B a && (decide (ro_ B a = ro_ B r) && bal B a r n)) i = false := by (show (th_ B i && (decide (ro_ B i = ro_ B r) && _)) = false; rw [decide_eq_false h44]; simp)
          rw [fst_step hz]
          refine X_iinc (nx := 62) dX8_isNewNode_59 rfl (by decide) rfl (by first | exact ii1 _ | rfl) rfl (st_s (st_s (st_s (st_0)))) ?_
          refine X_goto (tgt := 17) dX8_isNewNode_62 rfl ?_
          exact ih (i + 1) (by omega)
        · skip
          rw [nI_eq (by omega) (by omega)] at h44
          refine X_aload_n (nx := 48) dX8_isNewNode_47 rfl rfl rfl ?_
          refine X_iload_n (nx := 49) dX8_isNewNode_48 rfl rfl rfl ?_
          refine X_iload_n (nx := 50) dX8_isNewNode_49 rfl rfl rfl ?_
          refine X_iload_n (nx := 51) dX8_isNewNode_50 rfl rfl rfl ?_
          refine Y_Vi3 (nx := 54) dX8_isNewNode_51 rfl ml_RX8_299 kj_X8_beginAlike kv_X8_beginAlike (sp_X8_beginAlike h hV rfl hic rfl hr rfl hn) (by first | assumption | rfl | decide | omega) (by first | assumption | rfl | decide | omega) (by decide) rfl (by first | decide | omega) (by exact Nat.le_of_ble_eq_true rfl) ?_
          refine X_if_eq (tgt := 59) (nx := 57) dX8_isNewNode_54 rfl rfl (fun h54 => ?_) (fun h54 => ?_)
          · skip
            have hz : (fun a => th_ B a && (decide (ro_ B a = ro_ B r) && bal B a r n)) i = false := by (show (th_ B i && (decide (ro_ B i = ro_ B r) && bal B i r n)) = false; rw [b2i_f.mp h54]; simp)
            rw [fst_step hz]
            refine X_iinc (nx := 62) dX8_isNewNode_59 rfl (by decide) rfl (by first | exact ii1 _ | rfl) rfl (st_s (st_s (st_s (st_0)))) ?_
            refine X_goto (tgt := 17) dX8_isNewNode_62 rfl ?_
            exact ih (i + 1) (by omega)
          · skip
            have hz : (fun a => th_ B a && (decide (ro_ B a = ro_ B r) && bal B a r n)) i = true := by (show (th_ B i && (decide (ro_ B i = ro_ B r) && bal B i r n)) = true; rw [b2i_t.mp h54, decide_eq_true h44, b2i_1.mp h29]; rfl)
            rw [fst_hit hz]
            refine X_iconst (v := 0) (nx := 58) dX8_isNewNode_57 rfl rfl ?_
            exact Y_reti dX8_isNewNode_58 (Or.inr ⟨rfl, by first | exact Or.inl rfl | exact Or.inr rfl | exact b2i_01 _ | assumption⟩) rfl rfl
theorem sp_X8_isNewNode {r n : Nat} {x y : Int32} {B : Bk} {K F : Nat → Nat} {D : Mem} (h : RB D B (th_ B) K F) (hV : VB B) (hx : x = nI r) (hr : r < cm_ B) (hy : y = nI n) (h1 : 1 ≤ n) (hn : n ≤ (sg_ B r).length) : Ei 3 j_X8_isNewNode [.ref 104, .int x, .int y] D (b2i (nwB B r n)) (D) := by
  refine E.start 1 (ls := [some (.ref 104), some (.int x), some (.int y), none]) (by decide +kernel) (Nat.le_of_ble_eq_true rfl) rfl (Nat.le_refl _) (Nat.le_refl _) ?_
  subst hx; subst hy
  have l4 := sgl_le hV hr
  have t1 := typ_lt (sg_le hV hr (i := n - 1) (by omega))
  refine X_aload_n (nx := 1) dX8_isNewNode_0 rfl rfl rfl ?_
  refine X_iload_n (nx := 2) dX8_isNewNode_1 rfl rfl rfl ?_
  refine X_iload_n (nx := 3) dX8_isNewNode_2 rfl rfl rfl ?_
  refine X_iconst (v := nI 1) (nx := 4) dX8_isNewNode_3 rfl rfl ?_
  refine X_isub (nx := 5) dX8_isNewNode_4 rfl ?_
  refine X_top (sub_nI h1) ?_
  refine Y_Vi2 (nx := 8) dX8_isNewNode_5 rfl ml_RX8_119 kj_X8_typeOf kv_X8_typeOf (sp_X8_typeOf h hV rfl hr rfl (by omega)) (by first | assumption | rfl | decide | omega) (by first | assumption | rfl | decide | omega) (by decide) rfl (by first | decide | omega) (by exact Nat.le_of_ble_eq_true rfl) ?_
  refine X_bipush (v := nI 7) (nx := 10) dX8_isNewNode_8 rfl rfl ?_
  refine X_icmp_ne (tgt := 15) (nx := 13) dX8_isNewNode_10 rfl rfl (fun h10 => ?_) (fun h10 => ?_)
  · skip
    rw [nI_eq (by omega) (by omega)] at h10
    refine X_iconst (v := nI 0) (nx := 16) dX8_isNewNode_15 rfl rfl ?_
    refine X_istore_n (i := 3) (nx := 17) dX8_isNewNode_16 rfl rfl (by decide) rfl (st_s (st_s (st_s (st_0)))) ?_
    (unfold nwB; rw [decide_eq_false h10]; exact lp_X8_isNewNode h hV hr (by omega) r 0 (Nat.zero_add _))
  · skip
    rw [nI_eq (by omega) (by omega)] at h10
    refine X_iconst (v := 0) (nx := 14) dX8_isNewNode_13 rfl rfl ?_
    exact Y_reti dX8_isNewNode_14 (Or.inr ⟨rfl, by first | exact Or.inl rfl | exact Or.inr rfl | exact b2i_01 _ | assumption⟩) (by unfold nwB; rw [decide_eq_true h10]; rfl) rfl
theorem nwS_le {B : Bk} (r : Nat) : nwS B r ≤ (sg_ B r).length := by
  unfold nwS
  have := sumN_le (f := fun k => if nwB B r (k + 1) = true then 1 else 0) (c := 1) (fun k => by split <;> omega) (sg_ B r).length
  omega
theorem dX8_nodesOf_0 : decode cX8_nodesOf 0 = .ok (.iconst 1, 1) := by decide +kernel
theorem dX8_nodesOf_1 : decode cX8_nodesOf 1 = .ok (.istore_n 2, 1) := by decide +kernel
theorem dX8_nodesOf_2 : decode cX8_nodesOf 2 = .ok (.iconst 0, 1) := by decide +kernel
theorem dX8_nodesOf_3 : decode cX8_nodesOf 3 = .ok (.istore_n 3, 1) := by decide +kernel
theorem dX8_nodesOf_4 : decode cX8_nodesOf 4 = .ok (.iload_n 3, 1) := by decide +kernel
theorem dX8_nodesOf_5 : decode cX8_nodesOf 5 = .ok (.aload_n 0, 1) := by decide +kernel
theorem dX8_nodesOf_6 : decode cX8_nodesOf 6 = .ok (.getfield 109, 3) := by decide +kernel
theorem dX8_nodesOf_9 : decode cX8_nodesOf 9 = .ok (.if_icmp .ge 69, 3) := by decide +kernel
theorem dX8_nodesOf_12 : decode cX8_nodesOf 12 = .ok (.aload_n 0, 1) := by decide +kernel
theorem dX8_nodesOf_13 : decode cX8_nodesOf 13 = .ok (.getfield 19, 3) := by decide +kernel
theorem dX8_nodesOf_16 : decode cX8_nodesOf 16 = .ok (.iload_n 3, 1) := by decide +kernel
theorem dX8_nodesOf_17 : decode cX8_nodesOf 17 = .ok (.iaload, 1) := by decide +kernel
theorem dX8_nodesOf_18 : decode cX8_nodesOf 18 = .ok (.ifCond .eq 54, 3) := by decide +kernel
theorem dX8_nodesOf_21 : decode cX8_nodesOf 21 = .ok (.aload_n 0, 1) := by decide +kernel
theorem dX8_nodesOf_22 : decode cX8_nodesOf 22 = .ok (.getfield 22, 3) := by decide +kernel
theorem dX8_nodesOf_25 : decode cX8_nodesOf 25 = .ok (.iload_n 3, 1) := by decide +kernel
theorem dX8_nodesOf_26 : decode cX8_nodesOf 26 = .ok (.iaload, 1) := by decide +kernel
theorem dX8_nodesOf_27 : decode cX8_nodesOf 27 = .ok (.iload_n 1, 1) := by decide +kernel
theorem dX8_nodesOf_28 : decode cX8_nodesOf 28 = .ok (.if_icmp .eq 6, 3) := by decide +kernel
theorem dX8_nodesOf_31 : decode cX8_nodesOf 31 = .ok (.goto 41, 3) := by decide +kernel
theorem dX8_nodesOf_34 : decode cX8_nodesOf 34 = .ok (.iconst 1, 1) := by decide +kernel
theorem dX8_nodesOf_35 : decode cX8_nodesOf 35 = .ok (.istore 4, 2) := by decide +kernel
theorem dX8_nodesOf_37 : decode cX8_nodesOf 37 = .ok (.iload 4, 2) := by decide +kernel
theorem dX8_nodesOf_39 : decode cX8_nodesOf 39 = .ok (.aload_n 0, 1) := by decide +kernel
theorem dX8_nodesOf_40 : decode cX8_nodesOf 40 = .ok (.getfield 31, 3) := by decide +kernel
theorem dX8_nodesOf_43 : decode cX8_nodesOf 43 = .ok (.iload_n 3, 1) := by decide +kernel
theorem dX8_nodesOf_44 : decode cX8_nodesOf 44 = .ok (.iaload, 1) := by decide +kernel
theorem dX8_nodesOf_45 : decode cX8_nodesOf 45 = .ok (.if_icmp .gt 27, 3) := by decide +kernel
theorem dX8_nodesOf_48 : decode cX8_nodesOf 48 = .ok (.iload_n 2, 1) := by decide +kernel
theorem dX8_nodesOf_49 : decode cX8_nodesOf 49 = .ok (.aload_n 0, 1) := by decide +kernel
theorem dX8_nodesOf_50 : decode cX8_nodesOf 50 = .ok (.iload_n 3, 1) := by decide +kernel
theorem dX8_nodesOf_51 : decode cX8_nodesOf 51 = .ok (.iload 4, 2) := by decide +kernel
theorem dX8_nodesOf_53 : decode cX8_nodesOf 53 = .ok (.invokevirtual 302, 3) := by decide +kernel
theorem dX8_nodesOf_56 : decode cX8_nodesOf 56 = .ok (.ifCond .eq 7, 3) := by decide +kernel
theorem dX8_nodesOf_59 : decode cX8_nodesOf 59 = .ok (.iconst 1, 1) := by decide +kernel
theorem dX8_nodesOf_60 : decode cX8_nodesOf 60 = .ok (.goto 4, 3) := by decide +kernel
theorem dX8_nodesOf_63 : decode cX8_nodesOf 63 = .ok (.iconst 0, 1) := by decide +kernel
theorem dX8_nodesOf_64 : decode cX8_nodesOf 64 = .ok (.iadd, 1) := by decide +kernel
theorem dX8_nodesOf_65 : decode cX8_nodesOf 65 = .ok (.istore_n 2, 1) := by decide +kernel
theorem dX8_nodesOf_66 : decode cX8_nodesOf 66 = .ok (.iinc 4 1, 3) := by decide +kernel
theorem dX8_nodesOf_69 : decode cX8_nodesOf 69 = .ok (.goto (-32), 3) := by decide +kernel
theorem dX8_nodesOf_72 : decode cX8_nodesOf 72 = .ok (.iinc 3 1, 3) := by decide +kernel
theorem dX8_nodesOf_75 : decode cX8_nodesOf 75 = .ok (.goto (-71), 3) := by decide +kernel
theorem dX8_nodesOf_78 : decode cX8_nodesOf 78 = .ok (.iload_n 2, 1) := by decide +kernel
theorem dX8_nodesOf_79 : decode cX8_nodesOf 79 = .ok (.ireturn, 1) := by decide +kernel
theorem X_fgn5 {d k pc : Nat} {j : MI} {a b c e o : Option Value} {st : List Value} {σ : Wd} {Q : List Value → Wd → Prop} (hX : X d k j pc [a, b, c, e, none] st σ Q) : X d k j pc [a, b, c, e, o] st σ Q := by
  refine X_forget (fun i v h => ?_) hX
  match i, h with
  | 0, h => exact h
  | 1, h => exact h
  | 2, h => exact h
  | 3, h => exact h
  | 4, h => cases h
  | n + 5, h => cases h
theorem lp_nodesOf_in {r R c : Nat} {Q : List Value → Wd → Prop} {B : Bk} {K F : Nat → Nat} {D : Mem} (h : RB D B (th_ B) K F) (hV : VB B) (hr : r < cm_ B) (hk : X 4 138 j_X8_nodesOf 72 [some (.ref 104), some (.int (nI R)), some (.int (nI (c + nwS B r))), some (.int (nI r)), none] [] (138, P0, D) Q) : ∀ (m : Nat) (i : Nat), i + m = (sg_ B r).length → X 4 138 j_X8_nodesOf 37 [some (.ref 104), some (.int (nI R)), some (.int (nI (c + sumN (fun k => if nwB B r (k + 1) = true then 1 else 0) i))), some (.int (nI r)), some (.int (nI (i + 1)))] [] (138, P0, D) (Q) := by
  intro m
  induction m with
  | zero =>
    intro i hi
    obtain ⟨hB1, hB2, hB3⟩ := id h
    have hcm := hV.2.1
    have l4 := sgl_le hV hr
    refine X_iload (nx := 39) dX8_nodesOf_37 rfl rfl ?_
    refine X_aload_n (nx := 40) dX8_nodesOf_39 rfl rfl rfl ?_
    refine M_getP (nx := 43) dX8_nodesOf_40 rfl fl_RX8_31 rfl (by first | assumption | rfl | decide | omega) (by first | assumption | rfl | decide | omega) (by first | assumption | rfl | decide | omega) ?_
    refine X_iload_n (nx := 44) dX8_nodesOf_43 rfl rfl rfl ?_
    refine M_ld (a := 112) (L := 10) (nx := 45) dX8_nodesOf_44 rfl (by decide) (by decide) rfl (by decide) (by omega) ((hB3 r hr).2.2.2.2.1) ?_
    refine X_icmp_gt (tgt := 72) (nx := 48) dX8_nodesOf_45 rfl rfl (fun h45 => ?_) (fun h45 => ?_)
    · skip
      obtain rfl : i = (sg_ B r).length := (by omega)
      exact X_fgn5 hk
    · exact absurd h45 (fun q => q (nI_lt (by omega) (by omega)))
  | succ m ih =>
    intro i hi
    obtain ⟨hB1, hB2, hB3⟩ := id h
    have hcm := hV.2.1
    have l4 := sgl_le hV hr
    refine X_iload (nx := 39) dX8_nodesOf_37 rfl rfl ?_
    refine X_aload_n (nx := 40) dX8_nodesOf_39 rfl rfl rfl ?_
    refine M_getP (nx := 43) dX8_nodesOf_40 rfl fl_RX8_31 rfl (by first | assumption | rfl | decide | omega) (by first | assumption | rfl | decide | omega) (by first | assumption | rfl | decide | omega) ?_
    refine X_iload_n (nx := 44) dX8_nodesOf_43 rfl rfl rfl ?_
    refine M_ld (a := 112) (L := 10) (nx := 45) dX8_nodesOf_44 rfl (by decide) (by decide) rfl (by decide) (by omega) ((hB3 r hr).2.2.2.2.1) ?_
    refine X_icmp_gt (tgt := 72) (nx := 48) dX8_nodesOf_45 rfl rfl (fun h45 => ?_) (fun h45 => ?_)
    · exact absurd h45 (nI_nlt (by omega) (by omega))
    · skip
      refine X_iload_n (nx := 49) dX8_nodesOf_48 rfl rfl rfl ?_
      refine X_aload_n (nx := 50) dX8_nodesOf_49 rfl rfl rfl ?_
      refine X_iload_n (nx := 51) dX8_nodesOf_50 rfl rfl rfl ?_
      refine X_iload (nx := 53) dX8_nodesOf_51 rfl rfl ?_
      refine Y_Vi2 (nx := 56) dX8_nodesOf_53 rfl ml_RX8_302 kj_X8_isNewNode kv_X8_isNewNode (sp_X8_isNewNode h hV rfl hr rfl (by omega) (by omega)) (by first | assumption | rfl | decide | omega) (by first | assumption | rfl | decide | omega) (by decide) rfl (by first | decide | omega) (by exact Nat.le_of_ble_eq_true rfl) ?_
      refine X_if_eq (tgt := 63) (nx := 59) dX8_nodesOf_56 rfl rfl (fun h56 => ?_) (fun h56 => ?_)
      · skip
        have hz : (fun k => if nwB B r (k + 1) = true then 1 else 0) i = 0 := if_neg (by rw [b2i_f.mp h56]; decide)
        refine X_iconst (v := nI 0) (nx := 64) dX8_nodesOf_63 rfl rfl ?_
        refine X_iadd (nx := 65) dX8_nodesOf_64 rfl ?_
        refine X_top (show _ = nI (c + sumN (fun k => if nwB B r (k + 1) = true then 1 else 0) (i + 1)) from (nI_add _ _).trans (congrArg nI (by show _ = c + (sumN (fun k => if nwB B r (k + 1) = true then 1 else 0) i + (fun k => if nwB B r (k + 1) = true then 1 else 0) i); rw [hz]; omega))) ?_
        refine X_istore_n (i := 2) (nx := 66) dX8_nodesOf_65 rfl rfl (by decide) rfl (st_s (st_s (st_0))) ?_
        refine X_iinc (nx := 69) dX8_nodesOf_66 rfl (by decide) rfl (by first | exact ii1 _ | rfl) rfl (st_s (st_s (st_s (st_s (st_0))))) ?_
        refine X_goto (tgt := 37) dX8_nodesOf_69 rfl ?_
        exact ih (i + 1) (by omega)
      · skip
        have hz : (fun k => if nwB B r (k + 1) = true then 1 else 0) i = 1 := if_pos (b2i_t.mp h56)
        refine X_iconst (v := nI 1) (nx := 60) dX8_nodesOf_59 rfl rfl ?_
        refine X_goto (tgt := 64) dX8_nodesOf_60 rfl ?_
        refine X_iadd (nx := 65) dX8_nodesOf_64 rfl ?_
        refine X_top (show _ = nI (c + sumN (fun k => if nwB B r (k + 1) = true then 1 else 0) (i + 1)) from (nI_add _ _).trans (congrArg nI (by show _ = c + (sumN (fun k => if nwB B r (k + 1) = true then 1 else 0) i + (fun k => if nwB B r (k + 1) = true then 1 else 0) i); rw [hz]; omega))) ?_
        refine X_istore_n (i := 2) (nx := 66) dX8_nodesOf_65 rfl rfl (by decide) rfl (st_s (st_s (st_0))) ?_
        refine X_iinc (nx := 69) dX8_nodesOf_66 rfl (by decide) rfl (by first | exact ii1 _ | rfl) rfl (st_s (st_s (st_s (st_s (st_0))))) ?_
        refine X_goto (tgt := 37) dX8_nodesOf_69 rfl ?_
        exact ih (i + 1) (by omega)
theorem lp_nodesOf {R : Nat} {B : Bk} {K F : Nat → Nat} {D : Mem} (h : RB D B (th_ B) K F) (hV : VB B) (hR : R < 1000) : ∀ (m : Nat) (i : Nat) (o : Option Value), i + m = cm_ B → X 4 138 j_X8_nodesOf 4 [some (.ref 104), some (.int (nI R)), some (.int (nI (1 + nwT B R i))), some (.int (nI i)), o] [] (138, P0, D) (fun x σ => x = [.int (nI (1 + nwT B R (cm_ B)))] ∧ σ = wd D) := by
  intro m
  induction m with
  | zero =>
    intro i o hi
    obtain ⟨hB1, hB2, hB3⟩ := id h
    have hcm := hV.2.1
    refine X_iload_n (nx := 5) dX8_nodesOf_4 rfl rfl rfl ?_
    refine X_aload_n (nx := 6) dX8_nodesOf_5 rfl rfl rfl ?_
    refine M_getI (nx := 9) dX8_nodesOf_6 rfl fl_RX8_109 rfl (by first | assumption | rfl | decide | omega) (by first | assumption | rfl | decide | omega) ?_
    refine X_top (hB2) ?_
    refine X_icmp_ge (tgt := 78) (nx := 12) dX8_nodesOf_9 rfl rfl (fun h9 => ?_) (fun h9 => ?_)
    · skip
      refine X_iload_n (nx := 79) dX8_nodesOf_78 rfl rfl rfl ?_
      exact Y_reti dX8_nodesOf_79 (Or.inl rfl) (by rw [show i = cm_ B by omega]) rfl
    · exact absurd h9 (fun q => q (nI_le (by omega) (by omega)))
  | succ m ih =>
    intro i o hi
    obtain ⟨hB1, hB2, hB3⟩ := id h
    have hcm := hV.2.1
    have hic : i < cm_ B := by omega
    have ro1 := (hV.2.2 i hic).1
    refine X_iload_n (nx := 5) dX8_nodesOf_4 rfl rfl rfl ?_
    refine X_aload_n (nx := 6) dX8_nodesOf_5 rfl rfl rfl ?_
    refine M_getI (nx := 9) dX8_nodesOf_6 rfl fl_RX8_109 rfl (by first | assumption | rfl | decide | omega) (by first | assumption | rfl | decide | omega) ?_
    refine X_top (hB2) ?_
    refine X_icmp_ge (tgt := 78) (nx := 12) dX8_nodesOf_9 rfl rfl (fun h9 => ?_) (fun h9 => ?_)
    · exact absurd h9 (nI_ge (by omega) (by omega))
    · skip
      refine X_aload_n (nx := 13) dX8_nodesOf_12 rfl rfl rfl ?_
      refine M_getP (nx := 16) dX8_nodesOf_13 rfl fl_RX8_19 rfl (by first | assumption | rfl | decide | omega) (by first | assumption | rfl | decide | omega) (by first | assumption | rfl | decide | omega) ?_
      refine X_iload_n (nx := 17) dX8_nodesOf_16 rfl rfl rfl ?_
      refine M_ld (a := 108) (L := 10) (nx := 18) dX8_nodesOf_17 rfl (by decide) (by decide) rfl (by decide) (by omega) ((hB3 i (by omega)).1) ?_
      refine X_if_eq (tgt := 72) (nx := 21) dX8_nodesOf_18 rfl rfl (fun h18 => ?_) (fun h18 => ?_)
      · skip
        have hz : nwT B R (i + 1) = nwT B R i := by (show nwT B R i + (if th_ B i = true ∧ ro_ B i = R then nwS B i else 0) = _; rw [if_neg (fun w => by rw [b2i_f.mp h18] at w; cases w.1)]; rfl)
        rw [← hz]
        refine X_iinc (nx := 75) dX8_nodesOf_72 rfl (by decide) rfl (by first | exact ii1 _ | rfl) rfl (st_s (st_s (st_s (st_0)))) ?_
        refine X_goto (tgt := 4) dX8_nodesOf_75 rfl ?_
        exact ih (i + 1) _ (by omega)
      · skip
        refine X_aload_n (nx := 22) dX8_nodesOf_21 rfl rfl rfl ?_
        refine M_getP (nx := 25) dX8_nodesOf_22 rfl fl_RX8_22 rfl (by first | assumption | rfl | decide | omega) (by first | assumption | rfl | decide | omega) (by first | assumption | rfl | decide | omega) ?_
        refine X_iload_n (nx := 26) dX8_nodesOf_25 rfl rfl rfl ?_
        refine M_ld (a := 109) (L := 10) (nx := 27) dX8_nodesOf_26 rfl (by decide) (by decide) rfl (by decide) (by omega) ((hB3 i (by omega)).2.1) ?_
        refine X_iload_n (nx := 28) dX8_nodesOf_27 rfl rfl rfl ?_
        refine X_icmp_eq (tgt := 34) (nx := 31) dX8_nodesOf_28 rfl rfl (fun h28 => ?_) (fun h28 => ?_)
        · skip
          rw [nI_eq (by omega) (by omega)] at h28
          have hz : nwT B R (i + 1) = nwT B R i + nwS B i := by (show nwT B R i + (if th_ B i = true ∧ ro_ B i = R then nwS B i else 0) = _; rw [if_pos ⟨b2i_t.mp h18, h28⟩])
          refine X_iconst (v := nI 1) (nx := 35) dX8_nodesOf_34 rfl rfl ?_
          refine X_istore (i := 4) (nx := 37) dX8_nodesOf_35 rfl (by decide) rfl (st_s (st_s (st_s (st_s (st_0))))) ?_
          refine lp_nodesOf_in (c := 1 + nwT B R i) h hV hic ?_ (sg_ B i).length 0 (Nat.zero_add _)
          rw [Nat.add_assoc, ← hz]
          refine X_iinc (nx := 75) dX8_nodesOf_72 rfl (by decide) rfl (ii1 _) rfl (st_s (st_s (st_s (st_0)))) ?_
          refine X_goto (tgt := 4) dX8_nodesOf_75 rfl ?_
          exact ih (i + 1) _ (by omega)
        · skip
          rw [nI_eq (by omega) (by omega)] at h28
          have hz : nwT B R (i + 1) = nwT B R i := by (show nwT B R i + (if th_ B i = true ∧ ro_ B i = R then nwS B i else 0) = _; rw [if_neg (fun w => h28 w.2)]; rfl)
          rw [← hz]
          refine X_goto (tgt := 72) dX8_nodesOf_31 rfl ?_
          refine X_iinc (nx := 75) dX8_nodesOf_72 rfl (by decide) rfl (by first | exact ii1 _ | rfl) rfl (st_s (st_s (st_s (st_0)))) ?_
          refine X_goto (tgt := 4) dX8_nodesOf_75 rfl ?_
          exact ih (i + 1) _ (by omega)
theorem sp_X8_nodesOf {R : Nat} {x : Int32} {B : Bk} {K F : Nat → Nat} {D : Mem} (h : RB D B (th_ B) K F) (hV : VB B) (hx : x = nI R) (hR : R < 1000) : Ei 4 j_X8_nodesOf [.ref 104, .int x] D (nI (1 + nwT B R (cm_ B))) (D) := by
  refine E.start 3 (ls := [some (.ref 104), some (.int x), none, none, none]) (by decide +kernel) (Nat.le_of_ble_eq_true rfl) rfl (Nat.le_refl _) (Nat.le_refl _) ?_
  subst hx
  refine X_iconst (v := nI 1) (nx := 1) dX8_nodesOf_0 rfl rfl ?_
  refine X_istore_n (i := 2) (nx := 2) dX8_nodesOf_1 rfl rfl (by decide) rfl (st_s (st_s (st_0))) ?_
  refine X_iconst (v := nI 0) (nx := 3) dX8_nodesOf_2 rfl rfl ?_
  refine X_istore_n (i := 3) (nx := 4) dX8_nodesOf_3 rfl rfl (by decide) rfl (st_s (st_s (st_s (st_0)))) ?_
  exact lp_nodesOf h hV hR (cm_ B) 0 none (Nat.zero_add _)
theorem dX8_nodes_0 : decode cX8_nodes 0 = .ok (.iload_n 1, 1) := by decide +kernel
theorem dX8_nodes_1 : decode cX8_nodes 1 = .ok (.invokestatic 240, 3) := by decide +kernel
theorem dX8_nodes_4 : decode cX8_nodes 4 = .ok (.ifCond .eq 11, 3) := by decide +kernel
theorem dX8_nodes_7 : decode cX8_nodes 7 = .ok (.aload_n 0, 1) := by decide +kernel
theorem dX8_nodes_8 : decode cX8_nodes 8 = .ok (.iload_n 1, 1) := by decide +kernel
theorem dX8_nodes_9 : decode cX8_nodes 9 = .ok (.invokevirtual 305, 3) := by decide +kernel
theorem dX8_nodes_12 : decode cX8_nodes 12 = .ok (.goto 8, 3) := by decide +kernel
theorem dX8_nodes_15 : decode cX8_nodes 15 = .ok (.aload_n 0, 1) := by decide +kernel
theorem dX8_nodes_16 : decode cX8_nodes 16 = .ok (.iconst (-1), 1) := by decide +kernel
theorem dX8_nodes_17 : decode cX8_nodes 17 = .ok (.invokevirtual 211, 3) := by decide +kernel
theorem dX8_nodes_20 : decode cX8_nodes 20 = .ok (.ireturn, 1) := by decide +kernel
theorem sp_X8_nodes {x : Int32} {S : St} {D : Mem} (h : INV2 D S) (hw : WF S) : Rix 5 j_X8_nodes [.ref 104, .int x] D (fun u D' => CK2 D (m_nodes S x) u D') := by
  refine E.start 0 (ls := [some (.ref 104), some (.int x)]) (by decide +kernel) (Nat.le_of_ble_eq_true rfl) rfl (Nat.le_refl _) (Nat.le_refl _) ?_
  have hcm := hw.1.2.1
  have hB2 := h.1.2.1
  refine X_iload_n (nx := 1) dX8_nodes_0 rfl rfl rfl ?_
  refine Y_Si1 (nx := 4) dX8_nodes_1 rfl ml_RX8_240 kj_X8_isRouter ks_X8_isRouter (sp_X8_isRouter) (by first | decide | omega) (by exact Nat.le_of_ble_eq_true rfl) ?_
  refine X_if_eq (tgt := 15) (nx := 7) dX8_nodes_4 rfl rfl (fun h4 => ?_) (fun h4 => ?_)
  · skip
    have n4 := nb h4
    refine X_aload_n (nx := 16) dX8_nodes_15 rfl rfl rfl ?_
    refine X_iconst (v := -1) (nx := 17) dX8_nodes_16 rfl rfl ?_
    refine Y_Vi1 (nx := 20) dX8_nodes_17 rfl ml_RX8_211 kj_X8_no kv_X8_no (sp_X8_no (k := 1) rfl (by omega) (by omega)) (by first | assumption | rfl | decide | omega) (by first | assumption | rfl | decide | omega) (by decide) rfl (by first | decide | omega) (by exact Nat.le_of_ble_eq_true rfl) ?_
    exact Z_reti dX8_nodes_20 (Or.inl rfl) (by unfold m_nodes; first | (rw [if_neg n4]; exact ck2_no (k := 1) h Fr.rf (by omega) (by omega)) | (rw [if_pos c4, k4, nodes_eq hw.1 hR]; exact ck2_s rfl h Fr.rf))
  · skip
    have c4 := b2i_t.mp h4
    obtain ⟨R, hR, rfl⟩ := ex_nI (N := 3) (n := 3) rfl (by decide) (of_decide_eq_true c4)
    have k4 : (nI R).toNatClampNeg = R := nI_clamp (by omega)
    refine X_aload_n (nx := 8) dX8_nodes_7 rfl rfl rfl ?_
    refine X_iload_n (nx := 9) dX8_nodes_8 rfl rfl rfl ?_
    refine Y_Vi1 (nx := 12) dX8_nodes_9 rfl ml_RX8_305 kj_X8_nodesOf kv_X8_nodesOf (sp_X8_nodesOf h.1 hw.1 rfl (by omega)) (by first | assumption | rfl | decide | omega) (by first | assumption | rfl | decide | omega) (by decide) rfl (by first | decide | omega) (by exact Nat.le_of_ble_eq_true rfl) ?_
    refine X_goto (tgt := 20) dX8_nodes_12 rfl ?_
    exact Z_reti dX8_nodes_20 (Or.inl rfl) (by unfold m_nodes; first | (rw [if_neg n4]; exact ck2_no (k := 1) h Fr.rf (by omega) (by omega)) | (rw [if_pos c4, k4, nodes_eq hw.1 hR]; exact ck2_s rfl h Fr.rf))
