/-! THE JUDGEMENT: X d k j pc ls st σ Q: method j, at pc, with locals ls and operands st over the memory σ, comes to its return with Q; calls at most d deep; at the end there are k cells. -/
def Cx (p : Program) (s : State) (m : MethodId) (args : Array Value) (meth : Method) (c : Code) (j : MI) : Prop :=
  p.tables.exec = Jvm.exec ∧ c.code = j.2.1 ∧ meth.sig.returnType = j.2.2.2 ∧ c.maxLocals = j.2.2.1 ∧ s.vm.findClass j.1.cls = some m.cls ∧ (∀ w ∈ big, w.before args s = true) ∧ meth.locks = false ∧ (j.1.name = "<init>" → meth.name = "<init>")
abbrev CC := va_G × ClassId × ClassId × (Nat → Int32) × Nat
abbrev tys_ (q : CC) : List (ClassId × FieldType) := [(q.2.1, .int), (q.2.2.1, .object RX4)]
abbrev ws0 (q : CC) (ad : Nat → Nat) (σ : Wd) : va_W := WS ad q.2.1 q.2.2.1 σ
def Sx (q : CC) (ad : Nat → Nat) (A : Nat → Prop) (s : State) (σ : Wd) (H : Heap) (locs : List Loc) : Prop :=
  va_K q.1 vwCl (tys_ q) s ∧ SK ad q.2.2.2.1 q.2.2.2.2 A s s.heap ∧ (∀ a : Nat, s.heap.size ≤ a → A a) ∧ va_P q.1 vwCl (ws0 q ad σ) H ∧ va_D A (ws0 q ad σ) ∧ va_S A s.heap H locs ∧ agr q.2.2.2.1 q.2.2.2.2 σ
def RetAt (j : MI) (pc : Nat) : List Value → Prop
  | [] => j.2.2.2 = none ∧ decode j.2.1 pc = .ok (.return_, 1)
  | [.int v] => (∃ ty, j.2.2.2 = some ty ∧ narrow ty (.int v) = .int v) ∧ decode j.2.1 pc = .ok (.ireturn, 1)
  | [.long _] => j.2.2.2 = some .long ∧ decode j.2.1 pc = .ok (.lreturn, 1)
  | [.ref _] => (∃ n, j.2.2.2 = some (.object n)) ∧ decode j.2.1 pc = .ok (.areturn, 1)
  | _ => False
def Bd (n0 : Nat) (ad0 : Nat → Nat) (k : Nat) (R : Room) (cells slots : Nat) (σ : Wd) (ad : Nat → Nat) : Prop :=
  n0 ≤ σ.1 ∧ σ.1 ≤ k ∧ k ≤ 138 ∧ cells + (k - σ.1) ≤ R.cells ∧ slots + (SZ k - SZ σ.1) ≤ R.slots ∧ ∀ a, ¬ (n0 ≤ a ∧ a < k) → ad a = ad0 a
def Fi_ (p : Program) (l : Launch) (e : Env) (R : Room) (s : State) (m : MethodId) (args : Array Value) (below : List Frame) (meth : Method) (c : Code) (Qm : State → Prop) (q : CC) (A : Nat → Prop) (n0 : Nat) (ad0 : Nat → Nat) (k : Nat) (j : MI) (Q : List Value → Wd → Prop) : Prop :=
  ∀ (vs : List Value) (σ : Wd) (H : Heap) (locs : List Loc) (la : Array Slot) (ad : Nat → Nat) (cells slots pc : Nat), Q vs σ → σ.1 = k → RetAt j pc vs → Sx q ad A s σ H locs → Bd n0 ad0 k R cells slots σ ad → W p l e R s m args below meth c H locs cells slots Qm (F0 m pc la (vs.map (tr ad)))
def X (d k : Nat) (j : MI) (pc : Nat) (ls : List (Option Value)) (st : List Value) (σ : Wd) (Q : List Value → Wd → Prop) : Prop :=
  ∀ (p : Program) (l : Launch) (e : Env) (R : Room) (s : State) (m : MethodId) (args : Array Value) (below : List Frame) (meth : Method) (c : Code) (cells slots : Nat) (H : Heap) (locs : List Loc) (la : Array Slot) (q : CC) (ad : Nat → Nat) (A : Nat → Prop) (n0 : Nat) (ad0 : Nat → Nat) (Qm : State → Prop),
    Cx p s m args meth c j → (d ≤ R.frames ∧ 40 * d ≤ R.locals) → Sx q ad A s σ H locs → lv_has la j.2.2.1 (asc ad 0 ls) → Bd n0 ad0 k R cells slots σ ad → Fi_ p l e R s m args below meth c Qm q A n0 ad0 k j Q →
    W p l e R s m args below meth c H locs cells slots Qm (F0 m pc la (st.map (tr ad)))
def QE (q : CC) (A : Nat → Prop) (ad : Nat → Nat) (n0 k : Nat) (Q : List Value → Wd → Prop) : Array Value → State → Outcome → State → Prop := fun _ st oc t =>
  (∃ (vs : List Value) (σ : Wd) (ad' : Nat → Nat), oc = .returned (vs.map (tr ad')).head? ∧ vs.length ≤ 1 ∧ Q vs σ ∧ σ.1 = k ∧ (∀ a, ¬ (n0 ≤ a ∧ a < k) → ad' a = ad a) ∧ va_P q.1 vwCl (ws0 q ad' σ) t.heap ∧ va_D A (ws0 q ad' σ) ∧ agr q.2.2.2.1 q.2.2.2.2 σ) ∧ va_F A st t
def PE (q : CC) (ad : Nat → Nat) (σ : Wd) (sz : Nat) : State → Prop := fun U =>
  U.heap.size = sz ∧ va_P q.1 vwCl (ws0 q ad σ) U.heap ∧ va_K q.1 vwCl (tys_ q) U ∧ va_D (fun _ => True) (ws0 q ad σ) ∧ SK ad q.2.2.2.1 q.2.2.2.2 (va_A (ws0 q ad σ) sz) U U.heap ∧ agr q.2.2.2.1 q.2.2.2.2 σ
/-- the contract of a method: from σ with these arguments it returns with Q -/
def E (d k : Nat) (j : MI) (vs : List Value) (σ : Wd) (Q : List Value → Wd → Prop) : Prop :=
  ∀ (l : Launch) (q : CC) (ad : Nat → Nat) (sz : Nat), Met l j.1 (ws_ j) ({ frames := d, cells := k - σ.1, slots := SZ k - SZ σ.1, locals := 40 * d }) (va_Pc (vs.map (tr ad)) (PE q ad σ sz)) (QE q (va_A (ws0 q ad σ) sz) ad σ.1 k Q) (k - σ.1) (SZ k - SZ σ.1) (va_A (ws0 q ad σ) sz)
theorem SZ_mono {a b : Nat} (h : a ≤ b) : SZ a ≤ SZ b := by
  induction b with
  | zero => rw [Nat.le_zero.mp h]; exact Nat.le_refl _
  | succ b ih =>
    by_cases hb : a ≤ b
    · exact Nat.le_trans (ih hb) (Nat.le_add_right _ _)
    · rw [show a = b + 1 by omega]; exact Nat.le_refl _
set_option maxHeartbeats 1000000 in
theorem E.of {d k : Nat} {j : MI} {vs : List Value} {σ : Wd} {Q : List Value → Wd → Prop} {ls : List (Option Value)} (hpl : plainName j.1.cls = true) (hfit : (lg_sl vs).length ≤ j.2.2.1) (hσ : σ.1 ≤ k) (hk : k ≤ 138) {n : Nat} (hls : ls = ent vs ++ List.replicate n none) (hX : X d k j 0 ls [] σ Q) : E d k j vs σ Q := by
  intro l q ad sz
  refine Met.ofW (cc := j.2.1) (maxL := j.2.2.1) (ret := j.2.2.2) hpl rfl ?_
  intro p e s m args below meth c s₁ B hml hv
  obtain ⟨rfl, hsz, hP, hK, hD, hSK, hag⟩ := hv
  subst hsz
  have hts := atoms_spec (ws := ws_ j) B.pre
  rw [lg_entry_eq]
  have hcat : (lg_sl (vs.map (tr ad))).length = (lg_sl vs).length := by
    clear hX hfit hls hts B hP hSK
    induction vs with
    | nil => rfl
    | cons v vs ih =>
      simp only [lg_sl, List.map_cons, List.flatMap_cons, List.length_append, tr_cat] at ih ⊢
      rw [ih]
      split <;> rfl
  have hl := lv_entry (vs.map (tr ad)) (n := j.2.2.1) (by rw [hcat]; exact hfit)
  rw [← ent_args, ← asc_none (ad := ad) (ent vs) n 0, ← hls] at hl
  refine hX p l e _ s m _ below meth c 0 0 s.heap [] _ q ad (va_A (ws0 q ad σ) s.heap.size) σ.1 ad _ ⟨B.exec, B.bytes, B.returns, hml, findClass_of_methodNamed B.named, fun w h => hts w (List.mem_cons_of_mem _ h), B.notSynchronized, fun h => (name_of_methodNamed B.named B.method).1.trans h⟩ ⟨Nat.le_refl _, Nat.le_refl _⟩ ⟨hK, hSK, fun a h => Or.inr h, hP, hD.self, va_S.rf, hag⟩ hl ⟨Nat.le_refl _, hσ, hk, by show 0 + (k - σ.1) ≤ k - σ.1; omega, by show 0 + (SZ k - SZ σ.1) ≤ SZ k - SZ σ.1; omega, fun a _ => rfl⟩ ?_
  intro vs' σ' H' locs' la' ad' cells' slots' pc' hQ hn hR ⟨_, _, _, hP', hD', hS', hag'⟩ ⟨_, _, _, hc1, hc2, had⟩
  refine W.widen (k := k - σ.1) (n := SZ k - SZ σ.1) (by have : cells' + (k - σ'.1) ≤ k - σ.1 := hc1; omega) (by have : slots' + (SZ k - SZ σ'.1) ≤ SZ k - SZ σ.1 := hc2; omega) ?_
  have hfin : ∀ t : State, t.heap = H' → vs'.length ≤ 1 → QE q (va_A (ws0 q ad σ) s.heap.size) ad σ.1 k Q (vs.map (tr ad)).toArray s (.returned (vs'.map (tr ad')).head?) t := by
    intro t ht hlen
    exact ⟨⟨vs', σ', ad', rfl, hlen, hQ, hn, had, by rw [ht]; exact hP', hD', hag'⟩, hS'.F ht⟩
  match vs', hR, hfin with
  | [], hR, hfin => exact W.vret B.exec B.bytes (B.returns.trans hR.1) (fun t ht _ => hfin t ht (by simp)) hS'.2.2 hR.2 B.notSynchronized
  | [.int v], ⟨⟨ty, h1, h2⟩, h3⟩, hfin => exact W.zret B.exec B.bytes (B.returns.trans h1) h2 (fun t ht _ => hfin t ht (by simp)) hS'.2.2 h3 B.notSynchronized
  | [.long v], ⟨h1, h3⟩, hfin => exact W.lret B.exec B.bytes (B.returns.trans h1) (fun t ht _ => hfin t ht (by simp)) hS'.2.2 h3 B.notSynchronized
  | [.ref a], ⟨⟨nm, h1⟩, h3⟩, hfin => exact W.aret B.exec B.bytes (B.returns.trans h1) (Or.inl ⟨nm, rfl⟩) (Or.inr ⟨_, rfl⟩) (fun t ht _ => hfin t ht (by simp)) hS'.2.2 h3 B.notSynchronized
/-! ## returns -/
section ROWS
variable {d k pc nx : Nat} {j : MI} {ls : List (Option Value)} {st : List Value} {σ : Wd} {Q : List Value → Wd → Prop}
theorem X_ret {vs : List Value} (hR : RetAt j pc vs) (hk : σ.1 = k) (hQ : Q vs σ) : X d k j pc ls vs σ Q := by
  intro p l e R s m args below meth c cells slots H locs la q ad A n0 ad0 Qm hC hR' hS hl hB hF
  exact hF vs σ H locs la ad cells slots pc hQ hk hR hS hB
theorem X.mono {Q' : List Value → Wd → Prop} (hX : X d k j pc ls st σ Q) (h : ∀ vs σ', Q vs σ' → Q' vs σ') : X d k j pc ls st σ Q' := by
  intro p l e R s m args below meth c cells slots H locs la q ad A n0 ad0 Qm hC hR hS hl hB hF
  exact hX p l e R s m args below meth c cells slots H locs la q ad A n0 ad0 Qm hC hR hS hl hB (fun vs σ' H' locs' la' ad' c' s' pc' hQ => hF vs σ' H' locs' la' ad' c' s' pc' (h _ _ hQ))
theorem X.deep {d' : Nat} (hX : X d k j pc ls st σ Q) (h : d ≤ d') : X d' k j pc ls st σ Q := by
  intro p l e R s m args below meth c cells slots H locs la q ad A n0 ad0 Qm hC hR hS hl hB hF
  exact hX p l e R s m args below meth c cells slots H locs la q ad A n0 ad0 Qm hC ⟨by omega, by omega⟩ hS hl hB hF
/-- a local is forgotten -/
theorem X_forget {ls' : List (Option Value)} (hs : ∀ (i : Nat) (v : Value), ls'[i]? = some (some v) → ls[i]? = some (some v)) (hX : X d k j pc ls' st σ Q) : X d k j pc ls st σ Q := by
  intro p l e R s m args below meth c cells slots H locs la q ad A n0 ad0 Qm hC hR hS hl hB hF
  refine hX p l e R s m args below meth c cells slots H locs la q ad A n0 ad0 Qm hC hR hS (lh_mem hl fun z hz => ?_) hB hF
  obtain ⟨i, v, rfl, h2⟩ := asc_inv hz
  exact asc_mem (hs i v h2)

theorem X_iconst {n : Int} {v : Int32} (hd : decode j.2.1 pc = .ok (.iconst n, 1)) (hn : pc + 1 = nx) (hv : Int32.ofInt n = v) (kk : X d k j nx ls (.int v :: st) σ Q) : X d k j pc ls (st) σ Q := by
  subst hn
  intro p l e R s m args below meth c cells slots H locs la q ad A n0 ad0 Qm hC hR hS hl hB hF
  exact lv_iconst hC.1 hC.2.1 hd hv (kk p l e R s m args below meth c cells slots H locs la q ad A n0 ad0 Qm hC hR hS hl hB hF)
theorem X_bipush {n : Int} {v : Int32} (hd : decode j.2.1 pc = .ok (.bipush n, 2)) (hn : pc + 2 = nx) (hv : (Int8.ofInt n).toInt32 = v) (kk : X d k j nx ls (.int v :: st) σ Q) : X d k j pc ls (st) σ Q := by
  subst hn
  intro p l e R s m args below meth c cells slots H locs la q ad A n0 ad0 Qm hC hR hS hl hB hF
  exact lv_bipush hC.1 hC.2.1 hd hv (kk p l e R s m args below meth c cells slots H locs la q ad A n0 ad0 Qm hC hR hS hl hB hF)
theorem X_sipush {n : Int} {v : Int32} (hd : decode j.2.1 pc = .ok (.sipush n, 3)) (hn : pc + 3 = nx) (hv : (Int16.ofInt n).toInt32 = v) (kk : X d k j nx ls (.int v :: st) σ Q) : X d k j pc ls (st) σ Q := by
  subst hn
  intro p l e R s m args below meth c cells slots H locs la q ad A n0 ad0 Qm hC hR hS hl hB hF
  exact lv_sipush hC.1 hC.2.1 hd hv (kk p l e R s m args below meth c cells slots H locs la q ad A n0 ad0 Qm hC hR hS hl hB hF)
theorem X_lconst {n : Fin 2} {v : Int64} (hd : decode j.2.1 pc = .ok (.lconst n, 1)) (hn : pc + 1 = nx) (hv : Int64.ofNat (n : Nat) = v) (kk : X d k j nx ls (.long v :: st) σ Q) : X d k j pc ls (st) σ Q := by
  subst hn
  intro p l e R s m args below meth c cells slots H locs la q ad A n0 ad0 Qm hC hR hS hl hB hF
  exact lv_lconst hC.1 hC.2.1 hd hv (kk p l e R s m args below meth c cells slots H locs la q ad A n0 ad0 Qm hC hR hS hl hB hF)
theorem X_ldc {i : Nat} {v : Int32} (hd : decode j.2.1 pc = .ok (.ldc i, 2)) (hn : pc + 2 = nx) (hw : Cond.constant j.1.cls i v ∈ big) (kk : X d k j nx ls (.int v :: st) σ Q) : X d k j pc ls (st) σ Q := by
  subst hn
  intro p l e R s m args below meth c cells slots H locs la q ad A n0 ad0 Qm hC hR hS hl hB hF
  exact lv_ldc hC.1 hC.2.1 hC.2.2.2.2.1 (hC.2.2.2.2.2.1 _ hw) hd (kk p l e R s m args below meth c cells slots H locs la q ad A n0 ad0 Qm hC hR hS hl hB hF)
theorem X_ldcw {i : Nat} {v : Int32} (hd : decode j.2.1 pc = .ok (.ldc_w i, 3)) (hn : pc + 3 = nx) (hw : Cond.constant j.1.cls i v ∈ big) (kk : X d k j nx ls (.int v :: st) σ Q) : X d k j pc ls (st) σ Q := by
  subst hn
  intro p l e R s m args below meth c cells slots H locs la q ad A n0 ad0 Qm hC hR hS hl hB hF
  exact lv_ldcw hC.1 hC.2.1 hC.2.2.2.2.1 (hC.2.2.2.2.2.1 _ hw) hd (kk p l e R s m args below meth c cells slots H locs la q ad A n0 ad0 Qm hC hR hS hl hB hF)
theorem X_ldc2 {i : Nat} {v : Int64} (hd : decode j.2.1 pc = .ok (.ldc2_w i, 3)) (hn : pc + 3 = nx) (hw : Cond.constantLong j.1.cls i v ∈ big) (kk : X d k j nx ls (.long v :: st) σ Q) : X d k j pc ls (st) σ Q := by
  subst hn
  intro p l e R s m args below meth c cells slots H locs la q ad A n0 ad0 Qm hC hR hS hl hB hF
  exact lv_ldc2 hC.1 hC.2.1 hC.2.2.2.2.1 (hC.2.2.2.2.2.1 _ hw) hd (kk p l e R s m args below meth c cells slots H locs la q ad A n0 ad0 Qm hC hR hS hl hB hF)
theorem X_iload {i : Nat} {x : Int32} (hd : decode j.2.1 pc = .ok (.iload i, 2)) (hn : pc + 2 = nx) (hi : ls[i]? = some (some (.int x))) (kk : X d k j nx ls (.int x :: st) σ Q) : X d k j pc ls (st) σ Q := by
  subst hn
  intro p l e R s m args below meth c cells slots H locs la q ad A n0 ad0 Qm hC hR hS hl hB hF
  exact lv_iload hC.1 hC.2.1 hd (lh_at hl hi) (kk p l e R s m args below meth c cells slots H locs la q ad A n0 ad0 Qm hC hR hS hl hB hF)
theorem X_iload_n {z : Fin 4} {i : Nat} {x : Int32} (hd : decode j.2.1 pc = .ok (.iload_n z, 1)) (hn : pc + 1 = nx) (hz : (z : Nat) = i) (hi : ls[i]? = some (some (.int x))) (kk : X d k j nx ls (.int x :: st) σ Q) : X d k j pc ls (st) σ Q := by
  subst hn
  intro p l e R s m args below meth c cells slots H locs la q ad A n0 ad0 Qm hC hR hS hl hB hF
  exact lv_iload_n hC.1 hC.2.1 hd hz (lh_at hl hi) (kk p l e R s m args below meth c cells slots H locs la q ad A n0 ad0 Qm hC hR hS hl hB hF)
theorem X_istore {i : Nat} {x : Int32} {ls' : List (Option Value)} (hd : decode j.2.1 pc = .ok (.istore i, 2)) (hn : pc + 2 = nx) (hi : i < j.2.2.1) (ho : ok1 ls i = true) (hs : ls.set i (some (.int x)) = ls') (kk : X d k j nx ls' st σ Q) : X d k j pc ls (.int x :: st) σ Q := by
  subst hn; subst hs
  intro p l e R s m args below meth c cells slots H locs la q ad A n0 ad0 Qm hC hR hS hl hB hF
  exact lv_istore hC.1 hC.2.1 hd hl hi rfl (fun la' hl' => kk p l e R s m args below meth c cells slots H locs la' q ad A n0 ad0 Qm hC hR hS (lh_set (v := .int x) ho hl') hB hF)
theorem X_istore_n {z : Fin 4} {i : Nat} {x : Int32} {ls' : List (Option Value)} (hd : decode j.2.1 pc = .ok (.istore_n z, 1)) (hn : pc + 1 = nx) (hz : (z : Nat) = i) (hi : i < j.2.2.1) (ho : ok1 ls i = true) (hs : ls.set i (some (.int x)) = ls') (kk : X d k j nx ls' st σ Q) : X d k j pc ls (.int x :: st) σ Q := by
  subst hn; subst hs
  intro p l e R s m args below meth c cells slots H locs la q ad A n0 ad0 Qm hC hR hS hl hB hF
  exact lv_istore_n hC.1 hC.2.1 hd hz hl hi rfl (fun la' hl' => kk p l e R s m args below meth c cells slots H locs la' q ad A n0 ad0 Qm hC hR hS (lh_set (v := .int x) ho hl') hB hF)
theorem X_lload {i : Nat} {x : Int64} (hd : decode j.2.1 pc = .ok (.lload i, 2)) (hn : pc + 2 = nx) (hi : ls[i]? = some (some (.long x))) (kk : X d k j nx ls (.long x :: st) σ Q) : X d k j pc ls (st) σ Q := by
  subst hn
  intro p l e R s m args below meth c cells slots H locs la q ad A n0 ad0 Qm hC hR hS hl hB hF
  exact lv_lload hC.1 hC.2.1 hd (lh_at hl hi) (kk p l e R s m args below meth c cells slots H locs la q ad A n0 ad0 Qm hC hR hS hl hB hF)
theorem X_lload_n {z : Fin 4} {i : Nat} {x : Int64} (hd : decode j.2.1 pc = .ok (.lload_n z, 1)) (hn : pc + 1 = nx) (hz : (z : Nat) = i) (hi : ls[i]? = some (some (.long x))) (kk : X d k j nx ls (.long x :: st) σ Q) : X d k j pc ls (st) σ Q := by
  subst hn
  intro p l e R s m args below meth c cells slots H locs la q ad A n0 ad0 Qm hC hR hS hl hB hF
  exact lv_lload_n hC.1 hC.2.1 hd hz (lh_at hl hi) (kk p l e R s m args below meth c cells slots H locs la q ad A n0 ad0 Qm hC hR hS hl hB hF)
theorem X_lstore {i : Nat} {x : Int64} {ls' : List (Option Value)} (hd : decode j.2.1 pc = .ok (.lstore i, 2)) (hn : pc + 2 = nx) (hi : i + 1 < j.2.2.1) (ho : ok1 ls i = true) (hs : (ls.set i (some (.long x))).set (i + 1) none = ls') (kk : X d k j nx ls' st σ Q) : X d k j pc ls (.long x :: st) σ Q := by
  subst hn; subst hs
  intro p l e R s m args below meth c cells slots H locs la q ad A n0 ad0 Qm hC hR hS hl hB hF
  exact lv_lstore hC.1 hC.2.1 hd hl hi rfl (fun la' hl' => kk p l e R s m args below meth c cells slots H locs la' q ad A n0 ad0 Qm hC hR hS (lh_set2 (v := .long x) ho hl') hB hF)
theorem X_lstore_n {z : Fin 4} {i : Nat} {x : Int64} {ls' : List (Option Value)} (hd : decode j.2.1 pc = .ok (.lstore_n z, 1)) (hn : pc + 1 = nx) (hz : (z : Nat) = i) (hi : i + 1 < j.2.2.1) (ho : ok1 ls i = true) (hs : (ls.set i (some (.long x))).set (i + 1) none = ls') (kk : X d k j nx ls' st σ Q) : X d k j pc ls (.long x :: st) σ Q := by
  subst hn; subst hs
  intro p l e R s m args below meth c cells slots H locs la q ad A n0 ad0 Qm hC hR hS hl hB hF
  exact lv_lstore_n hC.1 hC.2.1 hd hz hl hi rfl (fun la' hl' => kk p l e R s m args below meth c cells slots H locs la' q ad A n0 ad0 Qm hC hR hS (lh_set2 (v := .long x) ho hl') hB hF)
theorem X_aload {i : Nat} {x : Nat} (hd : decode j.2.1 pc = .ok (.aload i, 2)) (hn : pc + 2 = nx) (hi : ls[i]? = some (some (.ref x))) (kk : X d k j nx ls (.ref x :: st) σ Q) : X d k j pc ls (st) σ Q := by
  subst hn
  intro p l e R s m args below meth c cells slots H locs la q ad A n0 ad0 Qm hC hR hS hl hB hF
  exact lv_aload hC.1 hC.2.1 hd (lh_at hl hi) (kk p l e R s m args below meth c cells slots H locs la q ad A n0 ad0 Qm hC hR hS hl hB hF)
theorem X_aload_n {z : Fin 4} {i : Nat} {x : Nat} (hd : decode j.2.1 pc = .ok (.aload_n z, 1)) (hn : pc + 1 = nx) (hz : (z : Nat) = i) (hi : ls[i]? = some (some (.ref x))) (kk : X d k j nx ls (.ref x :: st) σ Q) : X d k j pc ls (st) σ Q := by
  subst hn
  intro p l e R s m args below meth c cells slots H locs la q ad A n0 ad0 Qm hC hR hS hl hB hF
  exact lv_aload_n hC.1 hC.2.1 hd hz (lh_at hl hi) (kk p l e R s m args below meth c cells slots H locs la q ad A n0 ad0 Qm hC hR hS hl hB hF)
theorem X_astore {i : Nat} {x : Nat} {ls' : List (Option Value)} (hd : decode j.2.1 pc = .ok (.astore i, 2)) (hn : pc + 2 = nx) (hi : i < j.2.2.1) (ho : ok1 ls i = true) (hs : ls.set i (some (.ref x)) = ls') (kk : X d k j nx ls' st σ Q) : X d k j pc ls (.ref x :: st) σ Q := by
  subst hn; subst hs
  intro p l e R s m args below meth c cells slots H locs la q ad A n0 ad0 Qm hC hR hS hl hB hF
  exact lv_astore hC.1 hC.2.1 hd hl hi rfl (fun la' hl' => kk p l e R s m args below meth c cells slots H locs la' q ad A n0 ad0 Qm hC hR hS (lh_set (v := .ref x) ho hl') hB hF)
theorem X_astore_n {z : Fin 4} {i : Nat} {x : Nat} {ls' : List (Option Value)} (hd : decode j.2.1 pc = .ok (.astore_n z, 1)) (hn : pc + 1 = nx) (hz : (z : Nat) = i) (hi : i < j.2.2.1) (ho : ok1 ls i = true) (hs : ls.set i (some (.ref x)) = ls') (kk : X d k j nx ls' st σ Q) : X d k j pc ls (.ref x :: st) σ Q := by
  subst hn; subst hs
  intro p l e R s m args below meth c cells slots H locs la q ad A n0 ad0 Qm hC hR hS hl hB hF
  exact lv_astore_n hC.1 hC.2.1 hd hz hl hi rfl (fun la' hl' => kk p l e R s m args below meth c cells slots H locs la' q ad A n0 ad0 Qm hC hR hS (lh_set (v := .ref x) ho hl') hB hF)
theorem X_iinc {i : Nat} {n : Int} {x v : Int32} {ls' : List (Option Value)} (hd : decode j.2.1 pc = .ok (.iinc i n, 3)) (hn : pc + 3 = nx) (hi : i < j.2.2.1) (hg : ls[i]? = some (some (.int x))) (hv : x + Int32.ofInt n = v) (ho : ok1 ls i = true) (hs : ls.set i (some (.int v)) = ls') (kk : X d k j nx ls' st σ Q) : X d k j pc ls st σ Q := by
  subst hn; subst hs
  intro p l e R s m args below meth c cells slots H locs la q ad A n0 ad0 Qm hC hR hS hl hB hF
  obtain ⟨k0, hk0⟩ := List.getElem?_of_mem (asc_mem (ad := ad) (k := 0) hg)
  exact lv_iinc hC.1 hC.2.1 hd hl (k := k0) (hk0.trans (by rw [Nat.zero_add]; rfl)) hv hi rfl (fun la' hl' => kk p l e R s m args below meth c cells slots H locs la' q ad A n0 ad0 Qm hC hR hS (lh_set (v := .int v) ho hl') hB hF)
theorem X_iadd {x y : Int32} (hd : decode j.2.1 pc = .ok (.iadd, 1)) (hn : pc + 1 = nx) (kk : X d k j nx ls (.int (x + y) :: st) σ Q) : X d k j pc ls (.int y :: .int x :: st) σ Q := by
  subst hn
  intro p l e R s m args below meth c cells slots H locs la q ad A n0 ad0 Qm hC hR hS hl hB hF
  exact lv_iadd hC.1 hC.2.1 hd (kk p l e R s m args below meth c cells slots H locs la q ad A n0 ad0 Qm hC hR hS hl hB hF)
theorem X_isub {x y : Int32} (hd : decode j.2.1 pc = .ok (.isub, 1)) (hn : pc + 1 = nx) (kk : X d k j nx ls (.int (x - y) :: st) σ Q) : X d k j pc ls (.int y :: .int x :: st) σ Q := by
  subst hn
  intro p l e R s m args below meth c cells slots H locs la q ad A n0 ad0 Qm hC hR hS hl hB hF
  exact lv_isub hC.1 hC.2.1 hd (kk p l e R s m args below meth c cells slots H locs la q ad A n0 ad0 Qm hC hR hS hl hB hF)
theorem X_imul {x y : Int32} (hd : decode j.2.1 pc = .ok (.imul, 1)) (hn : pc + 1 = nx) (kk : X d k j nx ls (.int (x * y) :: st) σ Q) : X d k j pc ls (.int y :: .int x :: st) σ Q := by
  subst hn
  intro p l e R s m args below meth c cells slots H locs la q ad A n0 ad0 Qm hC hR hS hl hB hF
  exact lv_imul hC.1 hC.2.1 hd (kk p l e R s m args below meth c cells slots H locs la q ad A n0 ad0 Qm hC hR hS hl hB hF)
theorem X_iand {x y : Int32} (hd : decode j.2.1 pc = .ok (.iand, 1)) (hn : pc + 1 = nx) (kk : X d k j nx ls (.int (x &&& y) :: st) σ Q) : X d k j pc ls (.int y :: .int x :: st) σ Q := by
  subst hn
  intro p l e R s m args below meth c cells slots H locs la q ad A n0 ad0 Qm hC hR hS hl hB hF
  exact lv_iand hC.1 hC.2.1 hd (kk p l e R s m args below meth c cells slots H locs la q ad A n0 ad0 Qm hC hR hS hl hB hF)
theorem X_ior {x y : Int32} (hd : decode j.2.1 pc = .ok (.ior, 1)) (hn : pc + 1 = nx) (kk : X d k j nx ls (.int (x ||| y) :: st) σ Q) : X d k j pc ls (.int y :: .int x :: st) σ Q := by
  subst hn
  intro p l e R s m args below meth c cells slots H locs la q ad A n0 ad0 Qm hC hR hS hl hB hF
  exact lv_ior hC.1 hC.2.1 hd (kk p l e R s m args below meth c cells slots H locs la q ad A n0 ad0 Qm hC hR hS hl hB hF)
theorem X_ixor {x y : Int32} (hd : decode j.2.1 pc = .ok (.ixor, 1)) (hn : pc + 1 = nx) (kk : X d k j nx ls (.int (x ^^^ y) :: st) σ Q) : X d k j pc ls (.int y :: .int x :: st) σ Q := by
  subst hn
  intro p l e R s m args below meth c cells slots H locs la q ad A n0 ad0 Qm hC hR hS hl hB hF
  exact lv_ixor hC.1 hC.2.1 hd (kk p l e R s m args below meth c cells slots H locs la q ad A n0 ad0 Qm hC hR hS hl hB hF)
theorem X_ishl {x y : Int32} (hd : decode j.2.1 pc = .ok (.ishl, 1)) (hn : pc + 1 = nx) (kk : X d k j nx ls (.int (x <<< (y &&& 31)) :: st) σ Q) : X d k j pc ls (.int y :: .int x :: st) σ Q := by
  subst hn
  intro p l e R s m args below meth c cells slots H locs la q ad A n0 ad0 Qm hC hR hS hl hB hF
  exact lv_ishl hC.1 hC.2.1 hd (kk p l e R s m args below meth c cells slots H locs la q ad A n0 ad0 Qm hC hR hS hl hB hF)
theorem X_ishr {x y : Int32} (hd : decode j.2.1 pc = .ok (.ishr, 1)) (hn : pc + 1 = nx) (kk : X d k j nx ls (.int (x >>> (y &&& 31)) :: st) σ Q) : X d k j pc ls (.int y :: .int x :: st) σ Q := by
  subst hn
  intro p l e R s m args below meth c cells slots H locs la q ad A n0 ad0 Qm hC hR hS hl hB hF
  exact lv_ishr hC.1 hC.2.1 hd (kk p l e R s m args below meth c cells slots H locs la q ad A n0 ad0 Qm hC hR hS hl hB hF)
theorem X_ineg {x : Int32} (hd : decode j.2.1 pc = .ok (.ineg, 1)) (hn : pc + 1 = nx) (kk : X d k j nx ls (.int (-x) :: st) σ Q) : X d k j pc ls (.int x :: st) σ Q := by
  subst hn
  intro p l e R s m args below meth c cells slots H locs la q ad A n0 ad0 Qm hC hR hS hl hB hF
  exact lv_ineg hC.1 hC.2.1 hd (kk p l e R s m args below meth c cells slots H locs la q ad A n0 ad0 Qm hC hR hS hl hB hF)
theorem X_iushr {x y v : Int32} (hd : decode j.2.1 pc = .ok (.iushr, 1)) (hn : pc + 1 = nx) (hv : (x.toUInt32 >>> (y.toUInt32 &&& Int32.toUInt32 31)).toInt32 = v) (kk : X d k j nx ls (.int v :: st) σ Q) : X d k j pc ls (.int y :: .int x :: st) σ Q := by
  subst hn
  intro p l e R s m args below meth c cells slots H locs la q ad A n0 ad0 Qm hC hR hS hl hB hF
  exact lv_iushr hC.1 hC.2.1 hd hv (kk p l e R s m args below meth c cells slots H locs la q ad A n0 ad0 Qm hC hR hS hl hB hF)
theorem X_ladd {x y : Int64} (hd : decode j.2.1 pc = .ok (.ladd, 1)) (hn : pc + 1 = nx) (kk : X d k j nx ls (.long (x + y) :: st) σ Q) : X d k j pc ls (.long y :: .long x :: st) σ Q := by
  subst hn
  intro p l e R s m args below meth c cells slots H locs la q ad A n0 ad0 Qm hC hR hS hl hB hF
  exact lv_ladd hC.1 hC.2.1 hd (kk p l e R s m args below meth c cells slots H locs la q ad A n0 ad0 Qm hC hR hS hl hB hF)
theorem X_lsub {x y : Int64} (hd : decode j.2.1 pc = .ok (.lsub, 1)) (hn : pc + 1 = nx) (kk : X d k j nx ls (.long (x - y) :: st) σ Q) : X d k j pc ls (.long y :: .long x :: st) σ Q := by
  subst hn
  intro p l e R s m args below meth c cells slots H locs la q ad A n0 ad0 Qm hC hR hS hl hB hF
  exact lv_lsub hC.1 hC.2.1 hd (kk p l e R s m args below meth c cells slots H locs la q ad A n0 ad0 Qm hC hR hS hl hB hF)
theorem X_lmul {x y : Int64} (hd : decode j.2.1 pc = .ok (.lmul, 1)) (hn : pc + 1 = nx) (kk : X d k j nx ls (.long (x * y) :: st) σ Q) : X d k j pc ls (.long y :: .long x :: st) σ Q := by
  subst hn
  intro p l e R s m args below meth c cells slots H locs la q ad A n0 ad0 Qm hC hR hS hl hB hF
  exact lv_lmul hC.1 hC.2.1 hd (kk p l e R s m args below meth c cells slots H locs la q ad A n0 ad0 Qm hC hR hS hl hB hF)
theorem X_idiv {x y : Int32} (hd : decode j.2.1 pc = .ok (.idiv, 1)) (hn : pc + 1 = nx) (hne : ¬ y = 0) (kk : X d k j nx ls (.int (x / y) :: st) σ Q) : X d k j pc ls (.int y :: .int x :: st) σ Q := by
  subst hn
  intro p l e R s m args below meth c cells slots H locs la q ad A n0 ad0 Qm hC hR hS hl hB hF
  exact lv_idiv hC.1 hC.2.1 hd hne (kk p l e R s m args below meth c cells slots H locs la q ad A n0 ad0 Qm hC hR hS hl hB hF)
theorem X_irem {x y : Int32} (hd : decode j.2.1 pc = .ok (.irem, 1)) (hn : pc + 1 = nx) (hne : ¬ y = 0) (kk : X d k j nx ls (.int (x - x / y * y) :: st) σ Q) : X d k j pc ls (.int y :: .int x :: st) σ Q := by
  subst hn
  intro p l e R s m args below meth c cells slots H locs la q ad A n0 ad0 Qm hC hR hS hl hB hF
  exact lv_irem hC.1 hC.2.1 hd hne (kk p l e R s m args below meth c cells slots H locs la q ad A n0 ad0 Qm hC hR hS hl hB hF)
theorem X_ldiv {x y : Int64} (hd : decode j.2.1 pc = .ok (.ldiv, 1)) (hn : pc + 1 = nx) (hne : ¬ y = 0) (kk : X d k j nx ls (.long (x / y) :: st) σ Q) : X d k j pc ls (.long y :: .long x :: st) σ Q := by
  subst hn
  intro p l e R s m args below meth c cells slots H locs la q ad A n0 ad0 Qm hC hR hS hl hB hF
  exact lv_ldiv hC.1 hC.2.1 hd hne (kk p l e R s m args below meth c cells slots H locs la q ad A n0 ad0 Qm hC hR hS hl hB hF)
theorem X_lrem {x y : Int64} (hd : decode j.2.1 pc = .ok (.lrem, 1)) (hn : pc + 1 = nx) (hne : ¬ y = 0) (kk : X d k j nx ls (.long (x - x / y * y) :: st) σ Q) : X d k j pc ls (.long y :: .long x :: st) σ Q := by
  subst hn
  intro p l e R s m args below meth c cells slots H locs la q ad A n0 ad0 Qm hC hR hS hl hB hF
  exact lv_lrem hC.1 hC.2.1 hd hne (kk p l e R s m args below meth c cells slots H locs la q ad A n0 ad0 Qm hC hR hS hl hB hF)
theorem X_i2l {x : Int32} (hd : decode j.2.1 pc = .ok (.i2l, 1)) (hn : pc + 1 = nx) (kk : X d k j nx ls (.long x.toInt64 :: st) σ Q) : X d k j pc ls (.int x :: st) σ Q := by
  subst hn
  intro p l e R s m args below meth c cells slots H locs la q ad A n0 ad0 Qm hC hR hS hl hB hF
  exact lv_i2l hC.1 hC.2.1 hd rfl (kk p l e R s m args below meth c cells slots H locs la q ad A n0 ad0 Qm hC hR hS hl hB hF)
theorem X_i2c {x v : Int32} (hd : decode j.2.1 pc = .ok (.i2c, 1)) (hn : pc + 1 = nx) (hv : (x.toUInt32 % 65536).toInt32 = v) (kk : X d k j nx ls (.int v :: st) σ Q) : X d k j pc ls (.int x :: st) σ Q := by
  subst hn
  intro p l e R s m args below meth c cells slots H locs la q ad A n0 ad0 Qm hC hR hS hl hB hF
  exact lv_i2c hC.1 hC.2.1 hd hv (kk p l e R s m args below meth c cells slots H locs la q ad A n0 ad0 Qm hC hR hS hl hB hF)
theorem X_pop {v : Value} (hd : decode j.2.1 pc = .ok (.pop, 1)) (hn : pc + 1 = nx) (hv : v.category = 1) (kk : X d k j nx ls (st) σ Q) : X d k j pc ls (v :: st) σ Q := by
  subst hn
  intro p l e R s m args below meth c cells slots H locs la q ad A n0 ad0 Qm hC hR hS hl hB hF
  exact lv_pop hC.1 hC.2.1 hd ((tr_cat ad v).trans hv) (kk p l e R s m args below meth c cells slots H locs la q ad A n0 ad0 Qm hC hR hS hl hB hF)
theorem X_dup {v : Value} (hd : decode j.2.1 pc = .ok (.dup, 1)) (hn : pc + 1 = nx) (hv : v.category = 1) (kk : X d k j nx ls (v :: v :: st) σ Q) : X d k j pc ls (v :: st) σ Q := by
  subst hn
  intro p l e R s m args below meth c cells slots H locs la q ad A n0 ad0 Qm hC hR hS hl hB hF
  exact lv_dup hC.1 hC.2.1 hd ((tr_cat ad v).trans hv) (kk p l e R s m args below meth c cells slots H locs la q ad A n0 ad0 Qm hC hR hS hl hB hF)
theorem X_dup2 {u v : Value} (hd : decode j.2.1 pc = .ok (.dup2, 1)) (hn : pc + 1 = nx) (hu : u.category = 1) (hv : v.category = 1) (kk : X d k j nx ls (u :: v :: u :: v :: st) σ Q) : X d k j pc ls (u :: v :: st) σ Q := by
  subst hn
  intro p l e R s m args below meth c cells slots H locs la q ad A n0 ad0 Qm hC hR hS hl hB hF
  exact lv_dup2_11 hC.1 hC.2.1 hd ((tr_cat ad u).trans hu) ((tr_cat ad v).trans hv) (kk p l e R s m args below meth c cells slots H locs la q ad A n0 ad0 Qm hC hR hS hl hB hF)
theorem X_lcmp {x y : Int64} (hd : decode j.2.1 pc = .ok (.lcmp, 1)) (hn : pc + 1 = nx) (kk : X d k j nx ls (.int (lg_cmp x y) :: st) σ Q) : X d k j pc ls (.long y :: .long x :: st) σ Q := by
  subst hn
  intro p l e R s m args below meth c cells slots H locs la q ad A n0 ad0 Qm hC hR hS hl hB hF
  exact W.lcmp hC.1 hC.2.1 hd (kk p l e R s m args below meth c cells slots H locs la q ad A n0 ad0 Qm hC hR hS hl hB hF)
theorem X_if_eq {x : Int32} {off : Int} {tgt : Nat} (hd : decode j.2.1 pc = .ok (.ifCond .eq off, 3)) (hn : pc + 3 = nx) (ht : (pc : Int) + off = (tgt : Int)) (kt : x = 0 → X d k j tgt ls st σ Q) (kf : ¬ x = 0 → X d k j nx ls st σ Q) : X d k j pc ls (.int x :: st) σ Q := by
  subst hn
  intro p l e R s m args below meth c cells slots H locs la q ad A n0 ad0 Qm hC hR hS hl hB hF
  exact lv_if_eq hC.1 hC.2.1 hd ht (fun h => kt h p l e R s m args below meth c cells slots H locs la q ad A n0 ad0 Qm hC hR hS hl hB hF) (fun h => kf h p l e R s m args below meth c cells slots H locs la q ad A n0 ad0 Qm hC hR hS hl hB hF)
theorem X_if_ne {x : Int32} {off : Int} {tgt : Nat} (hd : decode j.2.1 pc = .ok (.ifCond .ne off, 3)) (hn : pc + 3 = nx) (ht : (pc : Int) + off = (tgt : Int)) (kt : ¬ x = 0 → X d k j tgt ls st σ Q) (kf : x = 0 → X d k j nx ls st σ Q) : X d k j pc ls (.int x :: st) σ Q := by
  subst hn
  intro p l e R s m args below meth c cells slots H locs la q ad A n0 ad0 Qm hC hR hS hl hB hF
  exact lv_if_ne hC.1 hC.2.1 hd ht (fun h => kt h p l e R s m args below meth c cells slots H locs la q ad A n0 ad0 Qm hC hR hS hl hB hF) (fun h => kf h p l e R s m args below meth c cells slots H locs la q ad A n0 ad0 Qm hC hR hS hl hB hF)
theorem X_if_lt {x : Int32} {off : Int} {tgt : Nat} (hd : decode j.2.1 pc = .ok (.ifCond .lt off, 3)) (hn : pc + 3 = nx) (ht : (pc : Int) + off = (tgt : Int)) (kt : x < 0 → X d k j tgt ls st σ Q) (kf : ¬ x < 0 → X d k j nx ls st σ Q) : X d k j pc ls (.int x :: st) σ Q := by
  subst hn
  intro p l e R s m args below meth c cells slots H locs la q ad A n0 ad0 Qm hC hR hS hl hB hF
  exact lv_if_lt hC.1 hC.2.1 hd ht (fun h => kt h p l e R s m args below meth c cells slots H locs la q ad A n0 ad0 Qm hC hR hS hl hB hF) (fun h => kf h p l e R s m args below meth c cells slots H locs la q ad A n0 ad0 Qm hC hR hS hl hB hF)
theorem X_if_ge {x : Int32} {off : Int} {tgt : Nat} (hd : decode j.2.1 pc = .ok (.ifCond .ge off, 3)) (hn : pc + 3 = nx) (ht : (pc : Int) + off = (tgt : Int)) (kt : 0 ≤ x → X d k j tgt ls st σ Q) (kf : ¬ 0 ≤ x → X d k j nx ls st σ Q) : X d k j pc ls (.int x :: st) σ Q := by
  subst hn
  intro p l e R s m args below meth c cells slots H locs la q ad A n0 ad0 Qm hC hR hS hl hB hF
  exact lv_if_ge hC.1 hC.2.1 hd ht (fun h => kt h p l e R s m args below meth c cells slots H locs la q ad A n0 ad0 Qm hC hR hS hl hB hF) (fun h => kf h p l e R s m args below meth c cells slots H locs la q ad A n0 ad0 Qm hC hR hS hl hB hF)
theorem X_if_gt {x : Int32} {off : Int} {tgt : Nat} (hd : decode j.2.1 pc = .ok (.ifCond .gt off, 3)) (hn : pc + 3 = nx) (ht : (pc : Int) + off = (tgt : Int)) (kt : 0 < x → X d k j tgt ls st σ Q) (kf : ¬ 0 < x → X d k j nx ls st σ Q) : X d k j pc ls (.int x :: st) σ Q := by
  subst hn
  intro p l e R s m args below meth c cells slots H locs la q ad A n0 ad0 Qm hC hR hS hl hB hF
  exact lv_if_gt hC.1 hC.2.1 hd ht (fun h => kt h p l e R s m args below meth c cells slots H locs la q ad A n0 ad0 Qm hC hR hS hl hB hF) (fun h => kf h p l e R s m args below meth c cells slots H locs la q ad A n0 ad0 Qm hC hR hS hl hB hF)
theorem X_if_le {x : Int32} {off : Int} {tgt : Nat} (hd : decode j.2.1 pc = .ok (.ifCond .le off, 3)) (hn : pc + 3 = nx) (ht : (pc : Int) + off = (tgt : Int)) (kt : x ≤ 0 → X d k j tgt ls st σ Q) (kf : ¬ x ≤ 0 → X d k j nx ls st σ Q) : X d k j pc ls (.int x :: st) σ Q := by
  subst hn
  intro p l e R s m args below meth c cells slots H locs la q ad A n0 ad0 Qm hC hR hS hl hB hF
  exact lv_if_le hC.1 hC.2.1 hd ht (fun h => kt h p l e R s m args below meth c cells slots H locs la q ad A n0 ad0 Qm hC hR hS hl hB hF) (fun h => kf h p l e R s m args below meth c cells slots H locs la q ad A n0 ad0 Qm hC hR hS hl hB hF)
theorem X_icmp_eq {x y : Int32} {off : Int} {tgt : Nat} (hd : decode j.2.1 pc = .ok (.if_icmp .eq off, 3)) (hn : pc + 3 = nx) (ht : (pc : Int) + off = (tgt : Int)) (kt : x = y → X d k j tgt ls st σ Q) (kf : ¬ x = y → X d k j nx ls st σ Q) : X d k j pc ls (.int y :: .int x :: st) σ Q := by
  subst hn
  intro p l e R s m args below meth c cells slots H locs la q ad A n0 ad0 Qm hC hR hS hl hB hF
  exact lv_icmp_eq hC.1 hC.2.1 hd ht (fun h => kt h p l e R s m args below meth c cells slots H locs la q ad A n0 ad0 Qm hC hR hS hl hB hF) (fun h => kf h p l e R s m args below meth c cells slots H locs la q ad A n0 ad0 Qm hC hR hS hl hB hF)
theorem X_icmp_ne {x y : Int32} {off : Int} {tgt : Nat} (hd : decode j.2.1 pc = .ok (.if_icmp .ne off, 3)) (hn : pc + 3 = nx) (ht : (pc : Int) + off = (tgt : Int)) (kt : ¬ x = y → X d k j tgt ls st σ Q) (kf : x = y → X d k j nx ls st σ Q) : X d k j pc ls (.int y :: .int x :: st) σ Q := by
  subst hn
  intro p l e R s m args below meth c cells slots H locs la q ad A n0 ad0 Qm hC hR hS hl hB hF
  exact lv_icmp_ne hC.1 hC.2.1 hd ht (fun h => kt h p l e R s m args below meth c cells slots H locs la q ad A n0 ad0 Qm hC hR hS hl hB hF) (fun h => kf h p l e R s m args below meth c cells slots H locs la q ad A n0 ad0 Qm hC hR hS hl hB hF)
theorem X_icmp_lt {x y : Int32} {off : Int} {tgt : Nat} (hd : decode j.2.1 pc = .ok (.if_icmp .lt off, 3)) (hn : pc + 3 = nx) (ht : (pc : Int) + off = (tgt : Int)) (kt : x < y → X d k j tgt ls st σ Q) (kf : ¬ x < y → X d k j nx ls st σ Q) : X d k j pc ls (.int y :: .int x :: st) σ Q := by
  subst hn
  intro p l e R s m args below meth c cells slots H locs la q ad A n0 ad0 Qm hC hR hS hl hB hF
  exact lv_icmp_lt hC.1 hC.2.1 hd ht (fun h => kt h p l e R s m args below meth c cells slots H locs la q ad A n0 ad0 Qm hC hR hS hl hB hF) (fun h => kf h p l e R s m args below meth c cells slots H locs la q ad A n0 ad0 Qm hC hR hS hl hB hF)
theorem X_icmp_ge {x y : Int32} {off : Int} {tgt : Nat} (hd : decode j.2.1 pc = .ok (.if_icmp .ge off, 3)) (hn : pc + 3 = nx) (ht : (pc : Int) + off = (tgt : Int)) (kt : y ≤ x → X d k j tgt ls st σ Q) (kf : ¬ y ≤ x → X d k j nx ls st σ Q) : X d k j pc ls (.int y :: .int x :: st) σ Q := by
  subst hn
  intro p l e R s m args below meth c cells slots H locs la q ad A n0 ad0 Qm hC hR hS hl hB hF
  exact lv_icmp_ge hC.1 hC.2.1 hd ht (fun h => kt h p l e R s m args below meth c cells slots H locs la q ad A n0 ad0 Qm hC hR hS hl hB hF) (fun h => kf h p l e R s m args below meth c cells slots H locs la q ad A n0 ad0 Qm hC hR hS hl hB hF)
theorem X_icmp_gt {x y : Int32} {off : Int} {tgt : Nat} (hd : decode j.2.1 pc = .ok (.if_icmp .gt off, 3)) (hn : pc + 3 = nx) (ht : (pc : Int) + off = (tgt : Int)) (kt : y < x → X d k j tgt ls st σ Q) (kf : ¬ y < x → X d k j nx ls st σ Q) : X d k j pc ls (.int y :: .int x :: st) σ Q := by
  subst hn
  intro p l e R s m args below meth c cells slots H locs la q ad A n0 ad0 Qm hC hR hS hl hB hF
  exact lv_icmp_gt hC.1 hC.2.1 hd ht (fun h => kt h p l e R s m args below meth c cells slots H locs la q ad A n0 ad0 Qm hC hR hS hl hB hF) (fun h => kf h p l e R s m args below meth c cells slots H locs la q ad A n0 ad0 Qm hC hR hS hl hB hF)
theorem X_icmp_le {x y : Int32} {off : Int} {tgt : Nat} (hd : decode j.2.1 pc = .ok (.if_icmp .le off, 3)) (hn : pc + 3 = nx) (ht : (pc : Int) + off = (tgt : Int)) (kt : x ≤ y → X d k j tgt ls st σ Q) (kf : ¬ x ≤ y → X d k j nx ls st σ Q) : X d k j pc ls (.int y :: .int x :: st) σ Q := by
  subst hn
  intro p l e R s m args below meth c cells slots H locs la q ad A n0 ad0 Qm hC hR hS hl hB hF
  exact lv_icmp_le hC.1 hC.2.1 hd ht (fun h => kt h p l e R s m args below meth c cells slots H locs la q ad A n0 ad0 Qm hC hR hS hl hB hF) (fun h => kf h p l e R s m args below meth c cells slots H locs la q ad A n0 ad0 Qm hC hR hS hl hB hF)
theorem X_ifnonnull {x : Nat} {off : Int} {tgt : Nat} (hd : decode j.2.1 pc = .ok (.ifnonnull off, 3)) (ht : (pc : Int) + off = (tgt : Int)) (kk : X d k j tgt ls st σ Q) : X d k j pc ls (.ref x :: st) σ Q := by
  intro p l e R s m args below meth c cells slots H locs la q ad A n0 ad0 Qm hC hR hS hl hB hF
  exact lv_ifnonnull hC.1 hC.2.1 hd ht (kk p l e R s m args below meth c cells slots H locs la q ad A n0 ad0 Qm hC hR hS hl hB hF)
theorem X_goto {off : Int} {tgt : Nat} (hd : decode j.2.1 pc = .ok (.goto off, 3)) (ht : (pc : Int) + off = (tgt : Int)) (kk : X d k j tgt ls st σ Q) : X d k j pc ls st σ Q := by
  intro p l e R s m args below meth c cells slots H locs la q ad A n0 ad0 Qm hC hR hS hl hB hF
  exact lv_goto hC.1 hC.2.1 hd ht (kk p l e R s m args below meth c cells slots H locs la q ad A n0 ad0 Qm hC hR hS hl hB hF)
theorem X_tableIn {dflt lo hi : Int} {offs : Array Int} {len : Nat} {x : Int32} {off : Int} {tgt : Nat} (hd : decode j.2.1 pc = .ok (.tableswitch dflt lo hi offs, len)) (h1 : ¬ x.toInt < lo) (h2 : ¬ hi < x.toInt) (ho : offs[(x.toInt - lo).toNat]? = some off) (ht : (pc : Int) + off = (tgt : Int)) (kk : X d k j tgt ls st σ Q) : X d k j pc ls (.int x :: st) σ Q := by
  intro p l e R s m args below meth c cells slots H locs la q ad A n0 ad0 Qm hC hR hS hl hB hF
  exact lv_tableIn hC.1 hC.2.1 hd h1 h2 ho ht (kk p l e R s m args below meth c cells slots H locs la q ad A n0 ad0 Qm hC hR hS hl hB hF)
theorem X_tableOut {dflt lo hi : Int} {offs : Array Int} {len : Nat} {x : Int32} {tgt : Nat} (hd : decode j.2.1 pc = .ok (.tableswitch dflt lo hi offs, len)) (h : x.toInt < lo ∨ hi < x.toInt) (ht : (pc : Int) + dflt = (tgt : Int)) (kk : X d k j tgt ls st σ Q) : X d k j pc ls (.int x :: st) σ Q := by
  intro p l e R s m args below meth c cells slots H locs la q ad A n0 ad0 Qm hC hR hS hl hB hF
  exact lv_tableOut hC.1 hC.2.1 hd h ht (kk p l e R s m args below meth c cells slots H locs la q ad A n0 ad0 Qm hC hR hS hl hB hF)
theorem X_lookup {dflt : Int} {ps : Array (Int × Int)} {len : Nat} {x : Int32} {off : Int} {tgt : Nat} (hd : decode j.2.1 pc = .ok (.lookupswitch dflt ps, len)) (hp : (ps.toList.zip (ps.toList.drop 1)).all (fun (a, next) => a.1 < next.1) = true) (ho : Op.lookupswitch.offset ps.toList dflt x.toInt = off) (ht : (pc : Int) + off = (tgt : Int)) (kk : X d k j tgt ls st σ Q) : X d k j pc ls (.int x :: st) σ Q := by
  intro p l e R s m args below meth c cells slots H locs la q ad A n0 ad0 Qm hC hR hS hl hB hF
  exact lv_lookup hC.1 hC.2.1 hd hp ho ht (kk p l e R s m args below meth c cells slots H locs la q ad A n0 ad0 Qm hC hR hS hl hB hF)
end ROWS
