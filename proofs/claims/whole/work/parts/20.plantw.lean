theorem srv_n : ∀ v, v < 4 → srv (nI v) = srvm v := by decide
theorem srvm_lt : ∀ v, v < 4 → srvm v < 16 := by decide
theorem dX7_served_0 : decode cX7_served 0 = .ok (.iload_n 0, 1) := by decide +kernel
theorem dX7_served_1 : decode cX7_served 1 = .ok (.tableswitch 40 0 3 #[31, 33, 35, 37], 31) := by decide +kernel
theorem dX7_served_32 : decode cX7_served 32 = .ok (.iconst 3, 1) := by decide +kernel
theorem dX7_served_33 : decode cX7_served 33 = .ok (.ireturn, 1) := by decide +kernel
theorem dX7_served_34 : decode cX7_served 34 = .ok (.iconst 2, 1) := by decide +kernel
theorem dX7_served_35 : decode cX7_served 35 = .ok (.ireturn, 1) := by decide +kernel
theorem dX7_served_36 : decode cX7_served 36 = .ok (.iconst 4, 1) := by decide +kernel
theorem dX7_served_37 : decode cX7_served 37 = .ok (.ireturn, 1) := by decide +kernel
theorem dX7_served_38 : decode cX7_served 38 = .ok (.bipush 15, 2) := by decide +kernel
theorem dX7_served_40 : decode cX7_served 40 = .ok (.ireturn, 1) := by decide +kernel
theorem dX7_served_41 : decode cX7_served 41 = .ok (.iconst 0, 1) := by decide +kernel
theorem dX7_served_42 : decode cX7_served 42 = .ok (.ireturn, 1) := by decide +kernel
theorem sp_X7_served {v : Nat} {x : Int32} {D : Mem} (hx : x = nI v) (hv : v < 4) : Ei 1 j_X7_served [.int x] D (nI (srvm v)) (D) := by
  refine E.start 0 (ls := [some (.int x)]) (by decide +kernel) (Nat.le_of_ble_eq_true rfl) rfl (Nat.le_refl _) (Nat.le_refl _) ?_
  subst hx
  refine X_iload_n (nx := 1) dX7_served_0 rfl rfl rfl ?_
  obtain rfl | rfl | rfl | rfl : v = 0 ∨ v = 1 ∨ v = 2 ∨ v = 3 := by omega
  · skip
    refine X_top (y := 0) (rfl) ?_
    refine X_tableIn (tgt := 32) (off := 31) dX7_served_1 (by decide) (by decide) (by decide) rfl ?_
    refine X_iconst (v := 3) (nx := 33) dX7_served_32 rfl rfl ?_
    exact Y_reti dX7_served_33 (Or.inl rfl) rfl rfl
  · skip
    refine X_top (y := 1) (rfl) ?_
    refine X_tableIn (tgt := 34) (off := 33) dX7_served_1 (by decide) (by decide) (by decide) rfl ?_
    refine X_iconst (v := 2) (nx := 35) dX7_served_34 rfl rfl ?_
    exact Y_reti dX7_served_35 (Or.inl rfl) rfl rfl
  · skip
    refine X_top (y := 2) (rfl) ?_
    refine X_tableIn (tgt := 36) (off := 35) dX7_served_1 (by decide) (by decide) (by decide) rfl ?_
    refine X_iconst (v := 4) (nx := 37) dX7_served_36 rfl rfl ?_
    exact Y_reti dX7_served_37 (Or.inl rfl) rfl rfl
  · skip
    refine X_top (y := 3) (rfl) ?_
    refine X_tableIn (tgt := 38) (off := 37) dX7_served_1 (by decide) (by decide) (by decide) rfl ?_
    refine X_bipush (v := 15) (nx := 40) dX7_served_38 rfl rfl ?_
    exact Y_reti dX7_served_40 (Or.inl rfl) rfl rfl
/-- the node list behind a route -/
def adP1 (nl : List Nd) (q : Nd) : List Nd := if (nix nl q).isSome = true then nl else nl ++ [q]
def adP (nl : List Nd) (R : Nat) (es : List Nat) : Nat → List Nd
  | 0 => nl
  | k + 1 => adP1 (adP nl R es k) (R, es.take (k + 1))
theorem adP1_len (nl : List Nd) (q : Nd) : (adP1 nl q).length ≤ nl.length + 1 ∧ nl.length ≤ (adP1 nl q).length := by
  unfold adP1
  split <;> simp
theorem adP_len (nl : List Nd) (R : Nat) (es : List Nat) : ∀ k, (adP nl R es k).length ≤ nl.length + k ∧ nl.length ≤ (adP nl R es k).length := by
  intro k
  induction k with
  | zero => exact ⟨Nat.le_refl _, Nat.le_refl _⟩
  | succ k ih =>
    have := adP1_len (adP nl R es k) (R, es.take (k + 1))
    exact ⟨by show (adP1 _ _).length ≤ _; omega, by show _ ≤ (adP1 _ _).length; omega⟩
def inT (x : Nat) : Prop := 80 ≤ x ∧ x ≤ 88
def inT2 (x : Nat) : Prop := 80 ≤ x ∧ x ≤ 91
def PSk (B : Bk) (PS : Nd → Nat → Bool) (i k : Nat) : Nd → Nat → Bool := fun q r => PS q r || (decide (r = i) && (PSf B q i && decide (q.2.length ≤ k)))
def adF (F G : Nd → Nat → Bool) (i : Nat) : Nd → Nat → Bool := fun q r => F q r || (decide (r = i) && G q i)
theorem es_len (B : Bk) (i : Nat) : (es_ B i).length = pl (sg_ B i) := by
  unfold es_ pl
  rw [List.length_map]
theorem filt_pl {s : List Nat} (h : VS s) : ∀ k, k < pl s → (s.filter (fun x => decide (x ≠ 40))).getD k 0 = s.getD k 0 := by
  intro k hk
  have hs : s.filter (fun x => decide (x ≠ 40)) = s.take (pl s) := by
    by_cases hp : pl s = s.length
    · rw [hp, List.take_length]
      exact List.filter_eq_self.mpr (fun x hx => by
        have := List.length_filter_lt_length_iff_exists (p := fun x => decide (x ≠ 40)) (l := s)
        by_cases h40 : x = 40
        · exact absurd (this.mpr ⟨x, hx, by simp [h40]⟩) (by unfold pl at hp; omega)
        · simp [h40])
    · have hle := pl_le s
      -- the last one is REST
      obtain ⟨x, hx, hx2⟩ := List.length_filter_lt_length_iff_exists.mp (show (s.filter (fun x => decide (x ≠ 40))).length < s.length by unfold pl at hp hle; omega)
      have hx40 : x = 40 := by simpa using hx2
      subst hx40
      obtain ⟨n, hn, hn2⟩ := List.getElem_of_mem hx
      have hlast : n + 1 = s.length := by
        by_cases q : n + 1 < s.length
        · exact absurd (by rw [List.getD_eq_getElem?_getD, List.getElem?_eq_getElem hn, hn2]; rfl) (h.2.2 n q)
        · omega
      have hsplit : s = s.take n ++ [40] := by
        have e1 : s = s.take n ++ s.drop n := (List.take_append_drop n s).symm
        have e2 : s.drop n = [40] := by
          rw [List.drop_eq_getElem_cons hn, hn2, List.drop_eq_nil_of_le (by omega)]
        rw [← e2]; exact e1
      have hpn : ∀ y ∈ s.take n, decide (y ≠ 40) = true := by
        intro y hy
        obtain ⟨m, hm, hm2⟩ := List.getElem_of_mem hy
        have hm3 : m < n := by simp at hm; omega
        have := h.2.2 m (by omega)
        rw [List.getD_eq_getElem?_getD, List.getElem?_eq_getElem (by omega)] at this
        rw [List.getElem_take] at hm2
        simp only [Option.getD_some] at this
        rw [hm2] at this
        exact decide_eq_true this
      have hf : s.filter (fun x => decide (x ≠ 40)) = s.take n := by
        conv => lhs; rw [hsplit]
        rw [List.filter_append, List.filter_eq_self.mpr hpn]
        simp
      have : pl s = n := by
        unfold pl
        rw [hf]; simp; omega
      rw [this]; exact hf
  rw [hs, List.getD_eq_getElem?_getD, List.getD_eq_getElem?_getD, List.getElem?_take_of_lt hk]
theorem es_get {B : Bk} {i k : Nat} (h : VS (sg_ B i)) (hk : k < (es_ B i).length) : (es_ B i).getD k 0 = typ ((sg_ B i).getD k 0) := by
  rw [es_len] at hk
  have := filt_pl h k hk
  unfold es_
  rw [List.getD_eq_getElem?_getD, List.getElem?_map]
  rw [List.getD_eq_getElem?_getD] at this
  have hk2 : k < ((sg_ B i).filter (fun x => decide (x ≠ 40))).length := hk
  rw [List.getElem?_eq_getElem hk2] at this ⊢
  simp only [Option.getD_some, Option.map_some] at this ⊢
  rw [this]
theorem take_s {l : List Nat} {k : Nat} (h : k < l.length) : l.take (k + 1) = l.take k ++ [l.getD k 0] := by
  rw [List.take_succ_eq_append_getElem h, List.getD_eq_getElem?_getD, List.getElem?_eq_getElem h]; rfl
theorem PSk_0 {B : Bk} {PS : Nd → Nat → Bool} {i : Nat} (q : Nd) (r : Nat) : PSk B PS i 0 q r = PS q r := by
  unfold PSk
  have : (PSf B q i && decide (q.2.length ≤ 0)) = false := by
    cases hp : q.2 with
    | nil => unfold PSf; rw [hp]; simp
    | cons a l => simp
  rw [this]; simp
theorem PSf_take {B : Bk} {i k : Nat} (ht : thN B i = true) (hk : k < (es_ B i).length) : PSf B (ro_ B i, (es_ B i).take (k + 1)) i = true := by
  unfold PSf
  have h1 : (es_ B i).take (k + 1) ≠ [] := by
    intro e
    have := congrArg List.length e
    rw [List.length_take] at this
    simp only [List.length_nil] at this
    omega
  have h2 : ((es_ B i).take (k + 1)).isPrefixOf (es_ B i) = true := List.isPrefixOf_iff_prefix.mpr (List.take_prefix _ _)
  rw [ht, decide_eq_true rfl, decide_eq_true h1, h2]; rfl
theorem PSf_eq {B : Bk} {i : Nat} {q : Nd} (h : PSf B q i = true) : q = (ro_ B i, (es_ B i).take q.2.length) := by
  unfold PSf at h
  simp only [Bool.and_eq_true, decide_eq_true_eq] at h
  obtain ⟨_, h2, _, h4⟩ := h
  exact Prod.ext h2.symm (List.prefix_iff_eq_take.mp (List.isPrefixOf_iff_prefix.mp h4))
theorem PSk_s {B : Bk} {PS : Nd → Nat → Bool} {i k : Nat} (ht : thN B i = true) (hk : k < (es_ B i).length) (q : Nd) (r : Nat) : PSk B PS i (k + 1) q r = uq (PSk B PS i k) (ro_ B i, (es_ B i).take (k + 1)) i q r := by
  show (PS q r || (decide (r = i) && (PSf B q i && decide (q.2.length ≤ k + 1)))) = ((PS q r || (decide (r = i) && (PSf B q i && decide (q.2.length ≤ k)))) || (decide (q = (ro_ B i, (es_ B i).take (k + 1))) && decide (r = i)))
  by_cases hr : r = i
  · subst hr
    rw [decide_eq_true rfl, Bool.true_and, Bool.true_and, Bool.and_true, Bool.or_assoc]
    congr 1
    by_cases hq : q = (ro_ B r, (es_ B r).take (k + 1))
    · have := PSf_take ht hk
      rw [← hq] at this
      rw [decide_eq_true hq, this, decide_eq_true (by rw [hq]; simp; omega)]; simp
    · rw [decide_eq_false hq, Bool.or_false]
      cases hp : PSf B q r with
      | false => rfl
      | true =>
        have e := PSf_eq hp
        rw [Bool.true_and, Bool.true_and]
        refine decide_eq_decide.mpr ⟨fun h1 => ?_, fun h1 => by omega⟩
        by_cases h2 : q.2.length = k + 1
        · rw [h2] at e; exact absurd e hq
        · omega
  · rw [decide_eq_false hr]; simp
theorem AT_iff {B : Bk} {i : Nat} {q : Nd} (ht : thN B i = true) : AT_ B q i = decide (q = (ro_ B i, es_ B i)) := by
  unfold AT_
  rw [ht, Bool.true_and]
  by_cases h : q = (ro_ B i, es_ B i)
  · subst h; simp
  · rw [decide_eq_false h]
    by_cases h1 : ro_ B i = q.1
    · rw [decide_eq_true h1, decide_eq_false (fun e => h (Prod.ext h1.symm e.symm))]; rfl
    · rw [decide_eq_false h1]; rfl
