/-! THE WORLD AS ONE MEMORY: cells by their number (in the order in which they are made), ints by cell and place, references by cell and place. -/
-- place 1 was the class Path, which is gone: it holds Pile once more, and no cell has it
abbrev vwCl : List vw_C := [(RX0, TX0, 5), (RX2, TX2, 2), (RX2, TX2, 2), (RX4, TX4, 7), (RX5, TX5, 12), (RX6, TX6, 11), (RX7, TX7, 10), (RX8, TX8, 52)]
abbrev Mem := Nat → Nat → Int32
abbrev Ptr := Nat → Nat → Option Nat
/-- how many cells there are, where references lead, what ints are -/
abbrev Wd := Nat × Ptr × Mem
/-- a method: name, bytes, locals, what it returns -/
abbrev MI := MethodName × ByteArray × Nat × Option FieldType
def up2 {α : Type} (f : Nat → Nat → α) (a j : Nat) (v : α) : Nat → Nat → α := fun b i => if b = a ∧ i = j then v else f b i
def tr (ad : Nat → Nat) : Value → Value
  | .ref a => .ref (ad a)
  | v => v
/-- the kind of each cell (a class by its place in vwCl, 8 an array of ints, 9 an array of Routes), and its length if an array -/
def layL : List (Nat × Nat) := [(6, 0), (0, 0), (8, 3), (8, 3), (9, 10), (3, 0), (8, 4), (3, 0), (8, 4), (3, 0), (8, 4), (3, 0), (8, 4), (3, 0), (8, 4), (3, 0), (8, 4), (3, 0), (8, 4), (3, 0), (8, 4), (3, 0), (8, 4), (3, 0), (8, 4), (3, 0), (8, 4), (0, 0), (8, 3), (8, 3), (9, 10), (3, 0), (8, 4), (3, 0), (8, 4), (3, 0), (8, 4), (3, 0), (8, 4), (3, 0), (8, 4), (3, 0), (8, 4), (3, 0), (8, 4), (3, 0), (8, 4), (3, 0), (8, 4), (3, 0), (8, 4), (3, 0), (8, 4), (0, 0), (8, 3), (8, 3), (9, 10), (3, 0), (8, 4), (3, 0), (8, 4), (3, 0), (8, 4), (3, 0), (8, 4), (3, 0), (8, 4), (3, 0), (8, 4), (3, 0), (8, 4), (3, 0), (8, 4), (3, 0), (8, 4), (3, 0), (8, 4), (3, 0), (8, 4), (5, 0), (4, 0), (8, 301), (8, 43), (8, 43), (8, 43), (8, 43), (8, 43), (8, 10), (8, 4), (8, 3), (8, 3), (8, 3), (2, 0), (8, 4), (8, 3), (8, 3), (2, 0), (8, 96), (2, 0), (8, 30), (2, 0), (8, 4), (8, 4), (8, 7), (7, 0), (8, 7), (8, 3), (8, 3), (8, 10), (8, 10), (8, 10), (8, 10), (8, 10), (8, 40), (8, 4), (8, 16), (8, 16), (8, 16), (8, 16), (8, 16), (8, 16), (8, 16), (8, 16), (8, 16), (8, 6), (8, 96), (8, 33), (8, 33), (8, 99), (8, 33), (8, 33), (8, 96), (8, 200), (8, 4), (8, 16), (8, 3), (8, 6), (8, 30)]
def lay (a : Nat) : Nat × Nat := layL.getD a (10, 0)
def nSl (ci : Nat) : Nat := [5, 2, 2, 7, 12, 11, 10, 52].getD ci 0
def pL : List (List Bool) := [[true, true, true, true, false], [true, false], [true, false], [true, false, false, false, false, false, false], [true, true, true, true, true, true, true, true, true, true, true, false], [true, true, true, true, false, false, false, false, false, false, false], [true, true, true, true, true, true, true, true, true, false], [true, true, true, true, true, true, true, true, true, false, true, false, true, true, true, true, true, true, true, true, true, false, false, false, false, true, true, true, true, true, true, true, true, false, false, false, false, false, true, false, false, false, false, true, true, true, false, false, true, true, false, false]]
def isP (ci k : Nat) : Bool := (pL.getD ci []).getD k false
def szc (a : Nat) : Nat := if (lay a).1 = 8 ∨ (lay a).1 = 9 then (lay a).2 else nSl (lay a).1
def SZ : Nat → Nat
  | 0 => 0
  | n + 1 => SZ n + szc n
def slt (ad : Nat → Nat) (P : Ptr) (D : Mem) (ci a k : Nat) : Value := if isP ci k = true then va_rf ((P a k).map ad) else .int (D a k)
def cel (ad : Nat → Nat) (cI cR : ClassId) (P : Ptr) (D : Mem) (a : Nat) : va_E :=
  if (lay a).1 = 8 then .inl (cI, (lay a).2, .inl (D a))
  else if (lay a).1 = 9 then .inl (cR, (lay a).2, .inr (.inr (.inr (.inr (fun j => (P a j).map ad)))))
  else .inr ((lay a).1, (List.range (nSl (lay a).1)).map (slt ad P D (lay a).1 a))
def WS (ad : Nat → Nat) (cI cR : ClassId) (σ : Wd) : va_W := (List.range σ.1).map (fun a => (ad a, cel ad cI cR σ.2.1 σ.2.2 a))
/-- the script, told in the memory -/
def agr (xs : Nat → Int32) (L : Nat) (σ : Wd) : Prop := σ.2.2 2003 = xs ∧ σ.2.2 2004 0 = nI L ∧ L < 2147483648 ∧ ∀ b i c, σ.2.1 b i = some c → c < σ.1
/-- arrays that nobody writes -/
def sarr (xs : Nat → Int32) (L : Nat) (a : Nat) : Option (Nat × (Nat → Int32)) :=
  if a = 2000 then some (5, fun j => [0, 1, 5, 21, 85].getD j 0)
  else if a = 2001 then some (32, fun j => [0, 1, 2, 3, 4, 5, 6, 6, 0, 1, 3, 2, 4, 5, 6, 6, 5, 0, 1, 2, 3, 4, 5, 6, 4, 0, 1, 3, 2, 4, 5, 6].getD j 0)
  else if a = 2002 then some (4, fun j => [3, 2, 4, 15].getD j 0)
  else if a = 2003 then some (L, xs)
  else none
/-- the steps of the class's six kinds, seven each: chars -/
def ordC (j : Nat) : Int32 := [69, 76, 67, 65, 82, 77, 32, 69, 76, 65, 67, 82, 77, 32, 77, 69, 76, 67, 65, 82, 77, 82, 69, 76, 65, 67, 82, 77, 69, 76, 67, 65, 82, 77, 32, 69, 76, 67, 65, 82, 77, 32].getD j 0
def isNest : Cond → Bool
  | .fieldLinkNest .. => true
  | .methodLinkNest .. => true
  | _ => false
abbrev zF : String := "FIRST_OF_SIZE"
/-- what holds of the tables and of what nobody writes -/
def SK (ad : Nat → Nat) (xs : Nat → Int32) (L : Nat) (A : Nat → Prop) (U : State) (H : Heap) : Prop :=
  (∀ a n f, sarr xs L a = some (n, f) → va_T .int (ad a) n (fun j => .int (f j)) A U H) ∧
  (va_Z RX1 zF "[I" (.ref (ad 2000)) A U H ∧ va_Z RX8 "ORDERS" "[I" (.ref (ad 2001)) A U H ∧ va_Z RX8 "SERVED" "[I" (.ref (ad 2002)) A U H ∧ va_Z RX6 "ORDERS" "[C" (.ref (ad 2005)) A U H) ∧
  va_T .char (ad 2005) 42 (fun j => .int (ordC j)) A U H ∧
  (∀ w ∈ lw_tbl, isNest w = true → va_Nw w U) ∧ va_AO RX4 U
theorem isNest_warm {w : Cond} (h : isNest w = true) {s U : State} (hW : s.WarmedH U.vm) (hn : va_Nw w s) : va_Nw w U := by
  cases w <;> first | exact hn.warmF hW | exact hn.warmM hW | cases h
theorem isNest_tab {w : Cond} (h : isNest w = true) : w.onTables = true := by
  cases w <;> first | rfl | cases h
theorem SK.at {ad : Nat → Nat} {xs : Nat → Int32} {L : Nat} {A B : Nat → Prop} {s U : State} {H : Heap} {locs : List Loc} (h : SK ad xs L A s s.heap) (hW : s.WarmedH U.vm) (hU : U.heap = H) (hS : va_S A s.heap H locs) (hB : ∀ q, B q → A q) : SK ad xs L B U U.heap := by
  obtain ⟨h1, ⟨h2, h3, h4, h5⟩, h6, h9, h10⟩ := h
  have hv := hW.alike
  rw [hU]
  have kz : ∀ {C n d : String} {v : Value}, va_Z C n d v A s s.heap → va_Z C n d v B U H := fun q => ((q.kept hS.2.1).moved hv).narrow hB
  exact ⟨fun a n f e => (((h1 a n f e).kept hS.2.1).moved hv).narrow hB, ⟨kz h2, kz h3, kz h4, kz h5⟩, ((h6.kept hS.2.1).moved hv).narrow hB, fun w hw hn => isNest_warm hn hW (h9 w hw hn), h10.moved hv⟩
theorem SK.blind {ad : Nat → Nat} {xs : Nat → Int32} {L : Nat} {A : Nat → Prop} {U : State} {g : JFrame} {mk : MethodId} {a : Array Value} (h : SK ad xs L A U U.heap) : SK ad xs L A (U.calling g mk a) (U.calling g mk a).heap := by
  obtain ⟨h1, ⟨h2, h3, h4, h5⟩, h6, h9, h10⟩ := h
  have hv : U.vm.Alike (U.calling g mk a).vm := Vm.Alike.refl U.vm
  have kz : ∀ {C n d : String} {v : Value}, va_Z C n d v A U U.heap → va_Z C n d v A (U.calling g mk a) (U.calling g mk a).heap := fun q => va_Z.moved hv q
  exact ⟨fun b n f e => va_T.moved hv (h1 b n f e), ⟨kz h2, kz h3, kz h4, kz h5⟩, va_T.moved hv h6, fun w hw hn => va_Nw.same (isNest_tab hn) (u := U) rfl (h9 w hw hn), h10.moved hv⟩
theorem sarr_ge {xs : Nat → Int32} {L a n : Nat} {f : Nat → Int32} (h : sarr xs L a = some (n, f)) : 138 ≤ a := by
  unfold sarr at h
  split at h
  · omega
  · split at h
    · omega
    · split at h
      · omega
      · split at h
        · omega
        · cases h
theorem SK.ad {ad ad' : Nat → Nat} {xs : Nat → Int32} {L : Nat} {A : Nat → Prop} {U : State} {H : Heap} (h : SK ad xs L A U H) (he : ∀ a, 138 ≤ a → ad' a = ad a) : SK ad' xs L A U H := by
  obtain ⟨h1, ⟨h2, h3, h4, h5⟩, h6, h9, h10⟩ := h
  exact ⟨fun a n f e => by rw [he a (sarr_ge e)]; exact h1 a n f e, ⟨by rw [he 2000 (by omega)]; exact h2, by rw [he 2001 (by omega)]; exact h3, by rw [he 2002 (by omega)]; exact h4, by rw [he 2005 (by omega)]; exact h5⟩, by rw [he 2005 (by omega)]; exact h6, h9, h10⟩
/-! the words that every method knows -/
def big : List Cond := lw_tbl.filter goodWord
theorem big_in {w : Cond} (h : w ∈ lw_tbl) (hg : goodWord w = true) : w ∈ big := List.mem_filter.mpr ⟨h, hg⟩
def ws_ (j : MI) : List Cond := .code j.1 j.2.1 j.2.2.1 j.2.2.2 :: big
/-! lists of cells -/
theorem WS_len (ad : Nat → Nat) (cI cR : ClassId) (σ : Wd) : (WS ad cI cR σ).length = σ.1 := by simp [WS]
theorem WS_at {ad : Nat → Nat} {cI cR : ClassId} {σ : Wd} {a : Nat} (h : a < σ.1) : (WS ad cI cR σ)[a]? = some (ad a, cel ad cI cR σ.2.1 σ.2.2 a) := by
  simp [WS, List.getElem?_map, List.getElem?_range h]
theorem WS_set {ad : Nat → Nat} {cI cR : ClassId} {σ σ' : Wd} {a : Nat} {e : va_E} (hn : σ'.1 = σ.1) (he : e = cel ad cI cR σ'.2.1 σ'.2.2 a) (ho : ∀ b, b ≠ a → cel ad cI cR σ'.2.1 σ'.2.2 b = cel ad cI cR σ.2.1 σ.2.2 b) : (WS ad cI cR σ).set a (ad a, e) = WS ad cI cR σ' := by
  subst he
  apply List.ext_getElem?
  intro i
  by_cases hi : i = a
  · subst hi
    by_cases h : i < σ.1
    · rw [List.getElem?_set_self (by rw [WS_len]; exact h), WS_at (by rw [hn]; exact h)]
    · rw [List.getElem?_eq_none (by rw [List.length_set, WS_len]; omega), List.getElem?_eq_none (by rw [WS_len]; omega)]
  · rw [List.getElem?_set_ne (Ne.symm hi)]
    by_cases h : i < σ.1
    · rw [WS_at h, WS_at (by rw [hn]; exact h), ho i hi]
    · rw [List.getElem?_eq_none (by rw [WS_len]; omega), List.getElem?_eq_none (by rw [WS_len]; omega)]
theorem WS_push {ad ad' : Nat → Nat} {cI cR : ClassId} {σ σ' : Wd} {q : Nat} {e : va_E} (hn : σ'.1 = σ.1 + 1) (hq : ad' σ.1 = q) (he : e = cel ad' cI cR σ'.2.1 σ'.2.2 σ.1) (ho : ∀ b, b < σ.1 → ad' b = ad b ∧ cel ad' cI cR σ'.2.1 σ'.2.2 b = cel ad cI cR σ.2.1 σ.2.2 b) : WS ad cI cR σ ++ [(q, e)] = WS ad' cI cR σ' := by
  subst he; subst hq
  unfold WS
  rw [hn, List.range_succ, List.map_append, List.map_singleton]
  congr 1
  apply List.map_congr_left
  intro b hb
  rw [(ho b (List.mem_range.mp hb)).1, (ho b (List.mem_range.mp hb)).2]
/-! locals: by place -/
def asc (ad : Nat → Nat) : Nat → List (Option Value) → List (Nat × Value)
  | _, [] => []
  | k, none :: l => asc ad (k + 1) l
  | k, some v :: l => (k, tr ad v) :: asc ad (k + 1) l
theorem asc_mem {ad : Nat → Nat} {ls : List (Option Value)} : ∀ {k i : Nat} {v : Value}, ls[i]? = some (some v) → (k + i, tr ad v) ∈ asc ad k ls := by
  induction ls with
  | nil => intro k i v h; simp at h
  | cons x l ih =>
    intro k i v h
    cases i with
    | zero =>
      simp at h
      subst h
      exact List.mem_cons_self
    | succ i =>
      have h' : l[i]? = some (some v) := by simpa using h
      have := ih (k := k + 1) h'
      rw [show k + 1 + i = k + (i + 1) by omega] at this
      cases x with
      | none => exact this
      | some w => exact List.mem_cons_of_mem _ this
theorem asc_inv {ad : Nat → Nat} {ls : List (Option Value)} : ∀ {k : Nat} {q : Nat × Value}, q ∈ asc ad k ls → ∃ (i : Nat) (v : Value), q = (k + i, tr ad v) ∧ ls[i]? = some (some v) := by
  induction ls with
  | nil => intro k q h; cases h
  | cons x l ih =>
    intro k q h
    cases x with
    | none =>
      obtain ⟨i, v, h1, h2⟩ := ih (k := k + 1) h
      exact ⟨i + 1, v, by rw [h1, show k + 1 + i = k + (i + 1) by omega], by simpa using h2⟩
    | some w =>
      rcases List.mem_cons.mp h with h | h
      · exact ⟨0, w, h, by simp⟩
      · obtain ⟨i, v, h1, h2⟩ := ih (k := k + 1) h
        exact ⟨i + 1, v, by rw [h1, show k + 1 + i = k + (i + 1) by omega], by simpa using h2⟩
theorem tr_cat (ad : Nat → Nat) (v : Value) : (tr ad v).category = v.category := by cases v <;> rfl
theorem lh_at {ad : Nat → Nat} {la : Array Slot} {nL : Nat} {ls : List (Option Value)} (h : lv_has la nL (asc ad 0 ls)) {i : Nat} {v : Value} (hi : ls[i]? = some (some v)) : la[i]? = some (.val (tr ad v)) := by
  have := h.2.2 _ (asc_mem (ad := ad) (k := 0) hi)
  simpa using this
theorem lh_mem {la : Array Slot} {nL : Nat} {l l' : List (Nat × Value)} (h : lv_has la nL l) (hs : ∀ q ∈ l', q ∈ l) : lv_has la nL l' := ⟨h.1, h.2.1, fun q hq => h.2.2 q (hs q hq)⟩
/-- nothing of two places stands just ahead of i -/
def ok1 (ls : List (Option Value)) : Nat → Bool
  | 0 => true
  | i + 1 => match ls[i]? with
    | some (some v) => v.category == 1
    | _ => true
theorem lh_set {ad : Nat → Nat} {la : Array Slot} {nL i : Nat} {v : Value} {ls : List (Option Value)} (hv : ok1 ls i = true) (h : lv_has la nL ((i, tr ad v) :: (asc ad 0 ls).filter (fun q => !(q.1 == i) && !(q.1 + 1 == i && q.2.category == 2)))) : lv_has la nL (asc ad 0 (ls.set i (some v))) := by
  refine lh_mem h fun q hq => ?_
  obtain ⟨j, w, rfl, h2⟩ := asc_inv hq
  rw [List.getElem?_set] at h2
  by_cases hj : i = j
  · subst hj
    rw [if_pos rfl] at h2
    split at h2
    · have : w = v := by injection h2 with h2; injection h2 with h2; exact h2.symm
      subst this
      rw [show 0 + i = i by omega]
      exact List.mem_cons_self
    · cases h2
  · rw [if_neg hj] at h2
    refine List.mem_cons_of_mem _ (List.mem_filter.mpr ⟨asc_mem h2, ?_⟩)
    have e1 : ((0 + j) == i) = false := by simp; omega
    rw [e1]
    by_cases e2 : 0 + j + 1 = i
    · subst e2
      have e3 : w.category = 1 := by
        unfold ok1 at hv
        rw [show 0 + j = j by omega] at hv
        simp only [h2] at hv
        simpa using hv
      simp [tr_cat, e3]
    · simp
      exact Or.inl (by omega)
theorem lh_set2 {ad : Nat → Nat} {la : Array Slot} {nL i : Nat} {v : Value} {ls : List (Option Value)} (hv : ok1 ls i = true) (h : lv_has la nL ((i, tr ad v) :: (asc ad 0 ls).filter (fun q => !(q.1 == i) && (!(q.1 == i + 1) && !(q.1 + 1 == i && q.2.category == 2))))) : lv_has la nL (asc ad 0 ((ls.set i (some v)).set (i + 1) none)) := by
  refine lh_mem h fun q hq => ?_
  obtain ⟨j, w, rfl, h2⟩ := asc_inv hq
  rw [List.getElem?_set] at h2
  by_cases hj1 : i + 1 = j
  · rw [if_pos hj1] at h2
    split at h2 <;> cases h2
  · rw [if_neg hj1, List.getElem?_set] at h2
    by_cases hj : i = j
    · subst hj
      rw [if_pos rfl] at h2
      split at h2
      · have : w = v := by injection h2 with h2; injection h2 with h2; exact h2.symm
        subst this
        rw [show 0 + i = i by omega]
        exact List.mem_cons_self
      · cases h2
    · rw [if_neg hj] at h2
      refine List.mem_cons_of_mem _ (List.mem_filter.mpr ⟨asc_mem h2, ?_⟩)
      have e1 : ((0 + j) == i) = false := by simp; omega
      have e4 : ((0 + j) == i + 1) = false := by simp; omega
      rw [e1, e4]
      by_cases e2 : 0 + j + 1 = i
      · subst e2
        have e3 : w.category = 1 := by
          unfold ok1 at hv
          rw [show 0 + j = j by omega] at hv
          simp only [h2] at hv
          simpa using hv
        simp [tr_cat, e3]
      · simp
        exact Or.inl (by omega)
/-- the locals at a method's start -/
def ent : List Value → List (Option Value)
  | [] => []
  | v :: vs => if v.category = 2 then some v :: none :: ent vs else some v :: ent vs
theorem ent_args {ad : Nat → Nat} (vs : List Value) : ∀ k, asc ad k (ent vs) = lv_args k (vs.map (tr ad)) := by
  induction vs with
  | nil => intro k; rfl
  | cons v vs ih =>
    intro k
    by_cases h : v.category = 2
    · simp only [ent, h, if_true, List.map_cons, lv_args, tr_cat, asc, ih]
    · simp only [ent, h, if_false, List.map_cons, lv_args, tr_cat, asc, ih]
theorem asc_none {ad : Nat → Nat} (l : List (Option Value)) (n : Nat) : ∀ k, asc ad k (l ++ List.replicate n none) = asc ad k l := by
  induction l with
  | nil =>
    intro k
    induction n generalizing k with
    | zero => rfl
    | succ n ih => simpa [List.replicate_succ, asc] using ih (k + 1)
  | cons x l ih =>
    intro k
    cases x with
    | none => exact ih (k + 1)
    | some v =>
      exact congrArg (fun z => (k, tr ad v) :: z) (ih (k + 1))
