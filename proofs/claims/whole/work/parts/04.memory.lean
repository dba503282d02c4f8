/-! ROWS OF THE MEMORY -/
def isZ (ci k : Nat) : Bool := (ci == 3 && k == 6) || (ci == 6 && k == 9) || (ci == 7 && (k == 39 || k == 40 || k == 47))
/-- what a class' tables say -/
def CF (ci : Nat) (C : String) (T : u_T) (N : Nat) (ty : Nat → FieldType) : Prop :=
  vwCl[ci]? = some (C, T, N) ∧ nSl ci = N ∧ ci < 8 ∧ (∀ i, i < N → (T i).1 = C) ∧ (∀ w ∈ u_ws C T N, w ∈ big) ∧ (∀ i, i < N → parseFieldDescriptor (T i).2.2.1 = some (ty i)) ∧ (∀ a, a < N → ∀ b, b < N → a ≠ b → (T a).2.1 ≠ (T b).2.1) ∧ (∀ i, i < N → (T i).2.2.2 = isP ci i ∧ (if isP ci i = true then ((∃ t, ty i = .array t) ∨ ∃ n, ty i = .object n) else ty i = if isZ ci i = true then .boolean else .int))
/-- a field's link -/
def FL (own : String) (idx ci k : Nat) : Prop := ∃ (C : String) (T : u_T) (N : Nat) (ty : Nat → FieldType), CF ci C T N ty ∧ k < N ∧
  (Cond.fieldLink own idx C (T k).2.1 (T k).2.2.1 ∈ big ∨ ∃ host, Cond.fieldLinkNest own idx C (T k).2.1 (T k).2.2.1 host ∈ lw_tbl)
theorem tb_in {w : Cond} (i : Nat) (h : tables_1[i]? = some w) : w ∈ lw_tbl := List.mem_append_right _ (List.mem_of_getElem? h)
theorem bg_in {w : Cond} (i : Nat) (h : tables_1[i]? = some w) (hg : goodWord w = true) : w ∈ big := big_in (tb_in i h) hg
theorem pv_in {w : Cond} (i : Nat) (h : (k2_sels lw_privs)[i]? = some w) (hg : goodWord w = true) : w ∈ big := big_in (List.mem_append_left _ (List.mem_of_getElem? h)) hg
theorem cel_obj {ad : Nat → Nat} {cI cR : ClassId} {P : Ptr} {D : Mem} {a ci : Nat} (h : (lay a).1 = ci) (hc : ci < 8) : cel ad cI cR P D a = .inr (ci, (List.range (nSl ci)).map (slt ad P D ci a)) := by
  unfold cel
  rw [h, if_neg (by omega), if_neg (by omega)]
theorem cel_int {ad : Nat → Nat} {cI cR : ClassId} {P : Ptr} {D : Mem} {a : Nat} (h : (lay a).1 = 8) : cel ad cI cR P D a = .inl (cI, (lay a).2, .inl (D a)) := by
  unfold cel
  rw [if_pos h]
theorem cel_ref {ad : Nat → Nat} {cI cR : ClassId} {P : Ptr} {D : Mem} {a : Nat} (h : (lay a).1 = 9) : cel ad cI cR P D a = .inl (cR, (lay a).2, .inr (.inr (.inr (.inr (fun j => (P a j).map ad))))) := by
  unfold cel
  rw [h, if_neg (by omega), if_pos rfl]
theorem slt_get {ad : Nat → Nat} {P : Ptr} {D : Mem} {ci a k : Nat} (h : k < nSl ci) : ((List.range (nSl ci)).map (slt ad P D ci a))[k]? = some (slt ad P D ci a k) := by
  simp [List.getElem?_map, List.getElem?_range h]
theorem slt_set {ad : Nat → Nat} {P P' : Ptr} {D D' : Mem} {ci a k : Nat} {v : Value} (hv : v = slt ad P' D' ci a k) (ho : ∀ i, i ≠ k → slt ad P' D' ci a i = slt ad P D ci a i) : ((List.range (nSl ci)).map (slt ad P D ci a)).set k v = (List.range (nSl ci)).map (slt ad P' D' ci a) := by
  apply List.ext_getElem?
  intro i
  by_cases hi : i = k
  · subst hi
    by_cases h : i < nSl ci
    · rw [List.getElem?_set_self (by simpa using h), slt_get h, hv]
    · rw [List.getElem?_eq_none (by simp; omega), List.getElem?_eq_none (by simp; omega)]
  · rw [List.getElem?_set_ne (Ne.symm hi)]
    by_cases h : i < nSl ci
    · rw [slt_get h, slt_get h, ho i hi]
    · rw [List.getElem?_eq_none (by simp; omega), List.getElem?_eq_none (by simp; omega)]
theorem cel_other {ad : Nat → Nat} {cI cR : ClassId} {P P' : Ptr} {D D' : Mem} {b : Nat} (hP : P' b = P b) (hD : D' b = D b) : cel ad cI cR P' D' b = cel ad cI cR P D b := by
  unfold cel
  rw [hP, hD]
  have : slt ad P' D' (lay b).1 b = slt ad P D (lay b).1 b := by
    funext i
    unfold slt
    rw [hP, hD]
  rw [this]
theorem up2_ne {α : Type} {f : Nat → Nat → α} {a b j : Nat} {v : α} (h : b ≠ a) : up2 f a j v b = f b := by
  funext i
  unfold up2
  rw [if_neg (fun q => h q.1)]
theorem up2_row {f : Nat → Nat → Int32} {a j : Nat} {v : Int32} : up2 f a j v a = upd (f a) j v := by
  funext i
  simp [up2, upd]
theorem agr_up {xs : Nat → Int32} {L : Nat} {σ : Wd} {a j : Nat} {v : Int32} (ha : a < 138) (h : agr xs L σ) : agr xs L (σ.1, σ.2.1, up2 σ.2.2 a j v) := by
  refine ⟨?_, ?_, h.2.2⟩
  · show up2 σ.2.2 a j v 2003 = xs
    rw [up2_ne (by omega)]; exact h.1
  · show up2 σ.2.2 a j v 2004 0 = nI L
    rw [up2_ne (by omega)]; exact h.2.1
section MROWS
variable {d k pc nx : Nat} {j : MI} {ls : List (Option Value)} {st : List Value} {σ : Wd} {Q : List Value → Wd → Prop}

theorem X_getI {idx ci kf a : Nat} (hd : decode j.2.1 pc = .ok (.getfield idx, 3)) (hn : pc + 3 = nx) (hf : FL j.1.cls idx ci kf) (hp : isP ci kf = false) (ha : a < σ.1) (hc : (lay a).1 = ci) (kk : X d k j nx ls (.int (σ.2.2 a kf) :: st) σ Q) : X d k j pc ls (.ref a :: st) σ Q := by
  subst hn
  intro p l e R s m args below meth c cells slots H locs la q ad A n0 ad0 Qm hC hR hS hl hB hF
  obtain ⟨hx, hb, hr, hml, hown, hts, hlk, hini⟩ := id hC
  obtain ⟨hK, hSK, hA, hP, hD, hSS, hag⟩ := id hS
  obtain ⟨C, T, N, ty, ⟨c1, c2, c3, c4, c5, c6, c7, c8⟩, hk, hw⟩ := hf
  have he := WS_at (ad := ad) (cI := q.2.1) (cR := q.2.2.1) ha
  rw [cel_obj hc c3] at he
  have hv := slt_get (ad := ad) (P := σ.2.1) (D := σ.2.2) (a := a) (k := kf) (ci := ci) (by rw [c2]; exact hk)
  have e0 : slt ad σ.2.1 σ.2.2 ci a kf = tr ad (.int (σ.2.2 a kf)) := by
    unfold slt
    rw [if_neg (by rw [hp]; decide)]; rfl
  rw [e0] at hv
  rcases hw with hw | ⟨host, hw⟩
  · exact va_get (D := q.1) (ci := ci) (C := C) (T := T) (N := N) (ref := C) hx hb hts c5 hown hK hP a he c1 kf hk (hts _ hw) (fun _ h9 => by rw [c4 kf hk] at h9; exact h9) hv hd (kk p l e R s m args below meth c cells slots H locs la q ad A n0 ad0 Qm hC hR hS hl hB hF)
  · exact va_getN (D := q.1) (ci := ci) (C := C) (T := T) (N := N) (ref := C) (host := host) hx hb hts c5 hown hK hP a he c1 kf hk ((hSK.2.2.2.1 _ hw rfl).use rfl) (fun _ h9 => by rw [c4 kf hk] at h9; exact h9) hv hd (kk p l e R s m args below meth c cells slots H locs la q ad A n0 ad0 Qm hC hR hS hl hB hF)
theorem X_getP {idx ci kf a b : Nat} (hd : decode j.2.1 pc = .ok (.getfield idx, 3)) (hn : pc + 3 = nx) (hf : FL j.1.cls idx ci kf) (hp : isP ci kf = true) (hv0 : σ.2.1 a kf = some b) (ha : a < σ.1) (hc : (lay a).1 = ci) (kk : X d k j nx ls (.ref b :: st) σ Q) : X d k j pc ls (.ref a :: st) σ Q := by
  subst hn
  intro p l e R s m args below meth c cells slots H locs la q ad A n0 ad0 Qm hC hR hS hl hB hF
  obtain ⟨hx, hb, hr, hml, hown, hts, hlk, hini⟩ := id hC
  obtain ⟨hK, hSK, hA, hP, hD, hSS, hag⟩ := id hS
  obtain ⟨C, T, N, ty, ⟨c1, c2, c3, c4, c5, c6, c7, c8⟩, hk, hw⟩ := hf
  have he := WS_at (ad := ad) (cI := q.2.1) (cR := q.2.2.1) ha
  rw [cel_obj hc c3] at he
  have hv := slt_get (ad := ad) (P := σ.2.1) (D := σ.2.2) (a := a) (k := kf) (ci := ci) (by rw [c2]; exact hk)
  have e0 : slt ad σ.2.1 σ.2.2 ci a kf = tr ad (.ref b) := by
    unfold slt
    rw [if_pos hp, hv0]; rfl
  rw [e0] at hv
  rcases hw with hw | ⟨host, hw⟩
  · exact va_get (D := q.1) (ci := ci) (C := C) (T := T) (N := N) (ref := C) hx hb hts c5 hown hK hP a he c1 kf hk (hts _ hw) (fun _ h9 => by rw [c4 kf hk] at h9; exact h9) hv hd (kk p l e R s m args below meth c cells slots H locs la q ad A n0 ad0 Qm hC hR hS hl hB hF)
  · exact va_getN (D := q.1) (ci := ci) (C := C) (T := T) (N := N) (ref := C) (host := host) hx hb hts c5 hown hK hP a he c1 kf hk ((hSK.2.2.2.1 _ hw rfl).use rfl) (fun _ h9 => by rw [c4 kf hk] at h9; exact h9) hv hd (kk p l e R s m args below meth c cells slots H locs la q ad A n0 ad0 Qm hC hR hS hl hB hF)
theorem X_putI {idx ci kf a : Nat} {x : Int32} (hd : decode j.2.1 pc = .ok (.putfield idx, 3)) (hn : pc + 3 = nx) (hf : FL j.1.cls idx ci kf) (hp : isP ci kf = false) (hz : isZ ci kf = false) (ha : a < σ.1) (hc : (lay a).1 = ci) (kk : X d k j nx ls st (σ.1, σ.2.1, up2 σ.2.2 a kf x) Q) : X d k j pc ls (.int x :: .ref a :: st) σ Q := by
  subst hn
  intro p l e R s m args below meth c cells slots H locs la q ad A n0 ad0 Qm hC hR hS hl hB hF
  obtain ⟨hx, hb, hr, hml, hown, hts, hlk, hini⟩ := id hC
  obtain ⟨hK, hSK, hA, hP, hD, hSS, hag⟩ := id hS
  obtain ⟨C, T, N, ty, ⟨c1, c2, c3, c4, c5, c6, c7, c8⟩, hk, hw⟩ := hf
  have he := WS_at (ad := ad) (cI := q.2.1) (cR := q.2.2.1) ha
  rw [cel_obj hc c3] at he
  have h8 := c8 kf hk
  rw [if_neg (by rw [hp]; decide)] at h8
  have hset := slt_set (ad := ad) (P := σ.2.1) (P' := σ.2.1) (D := σ.2.2) (D' := up2 σ.2.2 a kf x) (ci := ci) (a := a) (k := kf) (v := .int x) (by unfold slt; rw [if_neg (by rw [hp]; decide)]; simp [up2]) (fun i hi => by unfold slt; simp [up2, hi])
  have hws := WS_set (ad := ad) (cI := q.2.1) (cR := q.2.2.1) (σ := σ) (σ' := (σ.1, σ.2.1, up2 σ.2.2 a kf x)) (a := a) (e := .inr (ci, ((List.range (nSl ci)).map (slt ad σ.2.1 σ.2.2 ci a)).set kf (.int x))) rfl (by rw [hset, cel_obj hc c3]) (fun b hb' => cel_other rfl (up2_ne hb'))
  have hag' : agr q.2.2.2.1 q.2.2.2.2 (σ.1, σ.2.1, up2 σ.2.2 a kf x) := agr_up (Nat.lt_of_lt_of_le ha (Nat.le_trans hB.2.1 hB.2.2.1)) hag
  have hlen : kf < ((List.range (nSl ci)).map (slt ad σ.2.1 σ.2.2 ci a)).length := by simp; rw [c2]; exact hk
  have hpd := (c6 kf hk).trans (congrArg some h8.2)
  have hnr : narrow (if isZ ci kf = true then FieldType.boolean else FieldType.int) (.int x) = .int x ∧ fits (if isZ ci kf = true then FieldType.boolean else FieldType.int) (.int x) = true := by
    rw [if_neg (by rw [hz]; decide)]; exact ⟨rfl, rfl⟩
  rcases hw with hw | ⟨host, hw⟩
  · refine va_put (v := .int x) (D := q.1) (ci := ci) (C := C) (T := T) (N := N) (ref := C) hx hb hts c5 ty c6 c7 hown hK hP hD hSS a he c1 kf hk (hts _ hw) (fun _ h9 => by rw [c4 kf hk] at h9; exact h9) (h8.1.trans hp) hpd hnr.1 hnr.2 hlen hd (fun H1 locs1 hP1 hD1 hS1 => ?_)
    rw [hws] at hP1 hD1
    exact kk p l e R s m args below meth c cells slots H1 locs1 la q ad A n0 ad0 Qm hC hR ⟨hK, hSK, hA, hP1, hD1, hS1, hag'⟩ hl hB hF
  · refine va_putN (v := .int x) (D := q.1) (ci := ci) (C := C) (T := T) (N := N) (ref := C) (host := host) hx hb hts c5 ty c6 c7 hown hK hP hD hSS a he c1 kf hk ((hSK.2.2.2.1 _ hw rfl).use rfl) (fun _ h9 => by rw [c4 kf hk] at h9; exact h9) (h8.1.trans hp) hpd hnr.1 hnr.2 hlen hd (fun H1 locs1 hP1 hD1 hS1 => ?_)
    rw [hws] at hP1 hD1
    exact kk p l e R s m args below meth c cells slots H1 locs1 la q ad A n0 ad0 Qm hC hR ⟨hK, hSK, hA, hP1, hD1, hS1, hag'⟩ hl hB hF
theorem X_putZ {idx ci kf a : Nat} {x : Int32} (hd : decode j.2.1 pc = .ok (.putfield idx, 3)) (hn : pc + 3 = nx) (hf : FL j.1.cls idx ci kf) (hp : isP ci kf = false) (hz : isZ ci kf = true) (hx0 : x = 0 ∨ x = 1) (ha : a < σ.1) (hc : (lay a).1 = ci) (kk : X d k j nx ls st (σ.1, σ.2.1, up2 σ.2.2 a kf x) Q) : X d k j pc ls (.int x :: .ref a :: st) σ Q := by
  subst hn
  intro p l e R s m args below meth c cells slots H locs la q ad A n0 ad0 Qm hC hR hS hl hB hF
  obtain ⟨hx, hb, hr, hml, hown, hts, hlk, hini⟩ := id hC
  obtain ⟨hK, hSK, hA, hP, hD, hSS, hag⟩ := id hS
  obtain ⟨C, T, N, ty, ⟨c1, c2, c3, c4, c5, c6, c7, c8⟩, hk, hw⟩ := hf
  have he := WS_at (ad := ad) (cI := q.2.1) (cR := q.2.2.1) ha
  rw [cel_obj hc c3] at he
  have h8 := c8 kf hk
  rw [if_neg (by rw [hp]; decide)] at h8
  have hset := slt_set (ad := ad) (P := σ.2.1) (P' := σ.2.1) (D := σ.2.2) (D' := up2 σ.2.2 a kf x) (ci := ci) (a := a) (k := kf) (v := .int x) (by unfold slt; rw [if_neg (by rw [hp]; decide)]; simp [up2]) (fun i hi => by unfold slt; simp [up2, hi])
  have hws := WS_set (ad := ad) (cI := q.2.1) (cR := q.2.2.1) (σ := σ) (σ' := (σ.1, σ.2.1, up2 σ.2.2 a kf x)) (a := a) (e := .inr (ci, ((List.range (nSl ci)).map (slt ad σ.2.1 σ.2.2 ci a)).set kf (.int x))) rfl (by rw [hset, cel_obj hc c3]) (fun b hb' => cel_other rfl (up2_ne hb'))
  have hag' : agr q.2.2.2.1 q.2.2.2.2 (σ.1, σ.2.1, up2 σ.2.2 a kf x) := agr_up (Nat.lt_of_lt_of_le ha (Nat.le_trans hB.2.1 hB.2.2.1)) hag
  have hlen : kf < ((List.range (nSl ci)).map (slt ad σ.2.1 σ.2.2 ci a)).length := by simp; rw [c2]; exact hk
  have hpd := (c6 kf hk).trans (congrArg some h8.2)
  have hnr : narrow (if isZ ci kf = true then FieldType.boolean else FieldType.int) (.int x) = .int x ∧ fits (if isZ ci kf = true then FieldType.boolean else FieldType.int) (.int x) = true := by
    rw [if_pos hz]; rcases hx0 with rfl | rfl <;> exact ⟨rfl, rfl⟩
  rcases hw with hw | ⟨host, hw⟩
  · refine va_put (v := .int x) (D := q.1) (ci := ci) (C := C) (T := T) (N := N) (ref := C) hx hb hts c5 ty c6 c7 hown hK hP hD hSS a he c1 kf hk (hts _ hw) (fun _ h9 => by rw [c4 kf hk] at h9; exact h9) (h8.1.trans hp) hpd hnr.1 hnr.2 hlen hd (fun H1 locs1 hP1 hD1 hS1 => ?_)
    rw [hws] at hP1 hD1
    exact kk p l e R s m args below meth c cells slots H1 locs1 la q ad A n0 ad0 Qm hC hR ⟨hK, hSK, hA, hP1, hD1, hS1, hag'⟩ hl hB hF
  · refine va_putN (v := .int x) (D := q.1) (ci := ci) (C := C) (T := T) (N := N) (ref := C) (host := host) hx hb hts c5 ty c6 c7 hown hK hP hD hSS a he c1 kf hk ((hSK.2.2.2.1 _ hw rfl).use rfl) (fun _ h9 => by rw [c4 kf hk] at h9; exact h9) (h8.1.trans hp) hpd hnr.1 hnr.2 hlen hd (fun H1 locs1 hP1 hD1 hS1 => ?_)
    rw [hws] at hP1 hD1
    exact kk p l e R s m args below meth c cells slots H1 locs1 la q ad A n0 ad0 Qm hC hR ⟨hK, hSK, hA, hP1, hD1, hS1, hag'⟩ hl hB hF
theorem X_iald {a : Nat} {i : Int32} (hd : decode j.2.1 pc = .ok (.iaload, 1)) (hn : pc + 1 = nx) (ha : a < σ.1) (hc : (lay a).1 = 8) (hin : vp_in i (lay a).2) (kk : X d k j nx ls (.int (σ.2.2 a i.toNatClampNeg) :: st) σ Q) : X d k j pc ls (.int i :: .ref a :: st) σ Q := by
  subst hn
  intro p l e R s m args below meth c cells slots H locs la q ad A n0 ad0 Qm hC hR hS hl hB hF
  obtain ⟨hx, hb, hr, hml, hown, hts, hlk, hini⟩ := id hC
  obtain ⟨hK, hSK, hA, hP, hD, hSS, hag⟩ := id hS
  have he := WS_at (ad := ad) (cI := q.2.1) (cR := q.2.2.1) ha
  rw [cel_int hc] at he
  exact va_iald hx hb hK hP a 0 he rfl hin hd (kk p l e R s m args below meth c cells slots H locs la q ad A n0 ad0 Qm hC hR hS hl hB hF)
theorem X_aald {a b : Nat} {i : Int32} (hd : decode j.2.1 pc = .ok (.aaload, 1)) (hn : pc + 1 = nx) (ha : a < σ.1) (hc : (lay a).1 = 9) (hin : vp_in i (lay a).2) (hv : σ.2.1 a i.toNatClampNeg = some b) (kk : X d k j nx ls (.ref b :: st) σ Q) : X d k j pc ls (.int i :: .ref a :: st) σ Q := by
  subst hn
  intro p l e R s m args below meth c cells slots H locs la q ad A n0 ad0 Qm hC hR hS hl hB hF
  obtain ⟨hx, hb, hr, hml, hown, hts, hlk, hini⟩ := id hC
  obtain ⟨hK, hSK, hA, hP, hD, hSS, hag⟩ := id hS
  have he := WS_at (ad := ad) (cI := q.2.1) (cR := q.2.2.1) ha
  rw [cel_ref hc] at he
  refine va_aldq (C := RX4) hx hb hK hP a 1 he rfl hin hd ?_
  rw [hv]
  exact kk p l e R s m args below meth c cells slots H locs la q ad A n0 ad0 Qm hC hR hS hl hB hF
theorem X_alen {a : Nat} (hd : decode j.2.1 pc = .ok (.arraylength, 1)) (hn : pc + 1 = nx) (ha : a < σ.1) (hc : (lay a).1 = 8 ∨ (lay a).1 = 9) (kk : X d k j nx ls (.int (nI (lay a).2) :: st) σ Q) : X d k j pc ls (.ref a :: st) σ Q := by
  subst hn
  intro p l e R s m args below meth c cells slots H locs la q ad A n0 ad0 Qm hC hR hS hl hB hF
  obtain ⟨hx, hb, hr, hml, hown, hts, hlk, hini⟩ := id hC
  obtain ⟨hK, hSK, hA, hP, hD, hSS, hag⟩ := id hS
  have he := WS_at (ad := ad) (cI := q.2.1) (cR := q.2.2.1) ha
  rcases hc with hc | hc
  · rw [cel_int hc] at he
    exact va_alen hx hb hK hP a 0 he (ty := .int) rfl rfl hd (kk p l e R s m args below meth c cells slots H locs la q ad A n0 ad0 Qm hC hR hS hl hB hF)
  · rw [cel_ref hc] at he
    exact va_alen hx hb hK hP a 1 he (ty := .object RX4) rfl rfl hd (kk p l e R s m args below meth c cells slots H locs la q ad A n0 ad0 Qm hC hR hS hl hB hF)
theorem X_iast {a : Nat} {i x : Int32} (hd : decode j.2.1 pc = .ok (.iastore, 1)) (hn : pc + 1 = nx) (ha : a < σ.1) (hc : (lay a).1 = 8) (hin : vp_in i (lay a).2) (kk : X d k j nx ls st (σ.1, σ.2.1, up2 σ.2.2 a i.toNatClampNeg x) Q) : X d k j pc ls (.int x :: .int i :: .ref a :: st) σ Q := by
  subst hn
  intro p l e R s m args below meth c cells slots H locs la q ad A n0 ad0 Qm hC hR hS hl hB hF
  obtain ⟨hx, hb, hr, hml, hown, hts, hlk, hini⟩ := id hC
  obtain ⟨hK, hSK, hA, hP, hD, hSS, hag⟩ := id hS
  have he := WS_at (ad := ad) (cI := q.2.1) (cR := q.2.2.1) ha
  rw [cel_int hc] at he
  have hws := WS_set (ad := ad) (cI := q.2.1) (cR := q.2.2.1) (σ := σ) (σ' := (σ.1, σ.2.1, up2 σ.2.2 a i.toNatClampNeg x)) (a := a) (e := .inl (q.2.1, (lay a).2, .inl (upd (σ.2.2 a) i.toNatClampNeg x))) rfl (by rw [cel_int hc, ← up2_row]) (fun b hb' => cel_other rfl (up2_ne hb'))
  have hag' : agr q.2.2.2.1 q.2.2.2.2 (σ.1, σ.2.1, up2 σ.2.2 a i.toNatClampNeg x) := agr_up (Nat.lt_of_lt_of_le ha (Nat.le_trans hB.2.1 hB.2.2.1)) hag
  refine va_iast hx hb hK hP hD hSS a 0 he rfl hin hd (fun H1 locs1 hP1 hD1 hS1 => ?_)
  rw [hws] at hP1 hD1
  exact kk p l e R s m args below meth c cells slots H1 locs1 la q ad A n0 ad0 Qm hC hR ⟨hK, hSK, hA, hP1, hD1, hS1, hag'⟩ hl hB hF
theorem X_sld {a n : Nat} {f : Nat → Int32} {i : Int32} (hd : decode j.2.1 pc = .ok (.iaload, 1)) (hn : pc + 1 = nx) (hs : ∀ xs L, sarr xs L a = some (n, f)) (hin : vp_in i n) (kk : X d k j nx ls (.int (f i.toNatClampNeg) :: st) σ Q) : X d k j pc ls (.int i :: .ref a :: st) σ Q := by
  subst hn
  intro p l e R s m args below meth c cells slots H locs la q ad A n0 ad0 Qm hC hR hS hl hB hF
  obtain ⟨hx, hb, hr, hml, hown, hts, hlk, hini⟩ := id hC
  obtain ⟨hK, hSK, hA, hP, hD, hSS, hag⟩ := id hS
  exact va_ti hx hb (hSK.1 a n f (hs _ _)) hSS hin rfl hd (kk p l e R s m args below meth c cells slots H locs la q ad A n0 ad0 Qm hC hR hS hl hB hF)
theorem X_slen {a n : Nat} {f : Nat → Int32} (hd : decode j.2.1 pc = .ok (.arraylength, 1)) (hn : pc + 1 = nx) (hs : ∀ xs L, sarr xs L a = some (n, f)) (kk : X d k j nx ls (.int (nI n) :: st) σ Q) : X d k j pc ls (.ref a :: st) σ Q := by
  subst hn
  intro p l e R s m args below meth c cells slots H locs la q ad A n0 ad0 Qm hC hR hS hl hB hF
  obtain ⟨hx, hb, hr, hml, hown, hts, hlk, hini⟩ := id hC
  obtain ⟨hK, hSK, hA, hP, hD, hSS, hag⟩ := id hS
  exact va_tlen hx hb (hSK.1 a n f (hs _ _)) hSS rfl hd (kk p l e R s m args below meth c cells slots H locs la q ad A n0 ad0 Qm hC hR hS hl hB hF)
theorem X_xld {i : Int32} (hd : decode j.2.1 pc = .ok (.iaload, 1)) (hn : pc + 1 = nx) (hin : vp_in i (σ.2.2 2004 0).toNatClampNeg) (kk : X d k j nx ls (.int (σ.2.2 2003 i.toNatClampNeg) :: st) σ Q) : X d k j pc ls (.int i :: .ref 2003 :: st) σ Q := by
  subst hn
  intro p l e R s m args below meth c cells slots H locs la q ad A n0 ad0 Qm hC hR hS hl hB hF
  obtain ⟨hx, hb, hr, hml, hown, hts, hlk, hini⟩ := id hC
  obtain ⟨hK, hSK, hA, hP, hD, hSS, hag⟩ := id hS
  obtain ⟨g1, g2, g3⟩ := id hag
  rw [g2, nI_clamp (by omega)] at hin
  rw [g1] at kk
  exact va_ti hx hb (hSK.1 2003 q.2.2.2.2 q.2.2.2.1 rfl) hSS hin rfl hd (kk p l e R s m args below meth c cells slots H locs la q ad A n0 ad0 Qm hC hR hS hl hB hF)
theorem X_xlen (hd : decode j.2.1 pc = .ok (.arraylength, 1)) (hn : pc + 1 = nx) (kk : X d k j nx ls (.int (σ.2.2 2004 0) :: st) σ Q) : X d k j pc ls (.ref 2003 :: st) σ Q := by
  subst hn
  intro p l e R s m args below meth c cells slots H locs la q ad A n0 ad0 Qm hC hR hS hl hB hF
  obtain ⟨hx, hb, hr, hml, hown, hts, hlk, hini⟩ := id hC
  obtain ⟨hK, hSK, hA, hP, hD, hSS, hag⟩ := id hS
  rw [hag.2.1] at kk
  exact va_tlen hx hb (hSK.1 2003 q.2.2.2.2 q.2.2.2.1 rfl) hSS rfl hd (kk p l e R s m args below meth c cells slots H locs la q ad A n0 ad0 Qm hC hR hS hl hB hF)
theorem X_gs_fos {idx : Nat} (hd : decode j.2.1 pc = .ok (.getstatic idx, 3)) (hn : pc + 3 = nx) (hw : Cond.fieldLink j.1.cls idx RX1 zF "[I" ∈ big) (kk : X d k j nx ls (.ref 2000 :: st) σ Q) : X d k j pc ls st σ Q := by
  subst hn
  intro p l e R s m args below meth c cells slots H locs la q ad A n0 ad0 Qm hC hR hS hl hB hF
  obtain ⟨hx, hb, hr, hml, hown, hts, hlk, hini⟩ := id hC
  obtain ⟨hK, hSK, hA, hP, hD, hSS, hag⟩ := id hS
  exact va_gets hx hb hSK.2.1.1 hSS hown (hts _ hw) (fun _ h => h) hd (kk p l e R s m args below meth c cells slots H locs la q ad A n0 ad0 Qm hC hR hS hl hB hF)
theorem X_gs_ord {idx : Nat} (hd : decode j.2.1 pc = .ok (.getstatic idx, 3)) (hn : pc + 3 = nx) (hw : Cond.fieldLink j.1.cls idx RX8 "ORDERS" "[I" ∈ big) (kk : X d k j nx ls (.ref 2001 :: st) σ Q) : X d k j pc ls st σ Q := by
  subst hn
  intro p l e R s m args below meth c cells slots H locs la q ad A n0 ad0 Qm hC hR hS hl hB hF
  obtain ⟨hx, hb, hr, hml, hown, hts, hlk, hini⟩ := id hC
  obtain ⟨hK, hSK, hA, hP, hD, hSS, hag⟩ := id hS
  exact va_gets hx hb hSK.2.1.2.1 hSS hown (hts _ hw) (fun _ h => h) hd (kk p l e R s m args below meth c cells slots H locs la q ad A n0 ad0 Qm hC hR hS hl hB hF)
theorem X_gs_srv {idx : Nat} (hd : decode j.2.1 pc = .ok (.getstatic idx, 3)) (hn : pc + 3 = nx) (hw : Cond.fieldLink j.1.cls idx RX8 "SERVED" "[I" ∈ big) (kk : X d k j nx ls (.ref 2002 :: st) σ Q) : X d k j pc ls st σ Q := by
  subst hn
  intro p l e R s m args below meth c cells slots H locs la q ad A n0 ad0 Qm hC hR hS hl hB hF
  obtain ⟨hx, hb, hr, hml, hown, hts, hlk, hini⟩ := id hC
  obtain ⟨hK, hSK, hA, hP, hD, hSS, hag⟩ := id hS
  exact va_gets hx hb hSK.2.1.2.2.1 hSS hown (hts _ hw) (fun _ h => h) hd (kk p l e R s m args below meth c cells slots H locs la q ad A n0 ad0 Qm hC hR hS hl hB hF)
theorem X_gs_orc {idx : Nat} (hd : decode j.2.1 pc = .ok (.getstatic idx, 3)) (hn : pc + 3 = nx) (hw : Cond.fieldLink j.1.cls idx RX6 "ORDERS" "[C" ∈ big) (kk : X d k j nx ls (.ref 2005 :: st) σ Q) : X d k j pc ls st σ Q := by
  subst hn
  intro p l e R s m args below meth c cells slots H locs la q ad A n0 ad0 Qm hC hR hS hl hB hF
  obtain ⟨hx, hb, hr, hml, hown, hts, hlk, hini⟩ := id hC
  obtain ⟨hK, hSK, hA, hP, hD, hSS, hag⟩ := id hS
  exact va_gets hx hb hSK.2.1.2.2.2 hSS hown (hts _ hw) (fun _ h => h) hd (kk p l e R s m args below meth c cells slots H locs la q ad A n0 ad0 Qm hC hR hS hl hB hF)
theorem X_cald {i : Int32} (hd : decode j.2.1 pc = .ok (.caload, 1)) (hn : pc + 1 = nx) (hin : vp_in i 42) (kk : X d k j nx ls (.int (ordC i.toNatClampNeg) :: st) σ Q) : X d k j pc ls (.int i :: .ref 2005 :: st) σ Q := by
  subst hn
  intro p l e R s m args below meth c cells slots H locs la q ad A n0 ad0 Qm hC hR hS hl hB hF
  obtain ⟨hx, hb, hr, hml, hown, hts, hlk, hini⟩ := id hC
  obtain ⟨hK, hSK, hA, hP, hD, hSS, hag⟩ := id hS
  exact va_tc hx hb hSK.2.2.1 hSS hin rfl hd (kk p l e R s m args below meth c cells slots H locs la q ad A n0 ad0 Qm hC hR hS hl hB hF)
theorem X_clen (hd : decode j.2.1 pc = .ok (.arraylength, 1)) (hn : pc + 1 = nx) (kk : X d k j nx ls (.int (nI 42) :: st) σ Q) : X d k j pc ls (.ref 2005 :: st) σ Q := by
  subst hn
  intro p l e R s m args below meth c cells slots H locs la q ad A n0 ad0 Qm hC hR hS hl hB hF
  obtain ⟨hx, hb, hr, hml, hown, hts, hlk, hini⟩ := id hC
  obtain ⟨hK, hSK, hA, hP, hD, hSS, hag⟩ := id hS
  exact va_tlen hx hb hSK.2.2.1 hSS rfl hd (kk p l e R s m args below meth c cells slots H locs la q ad A n0 ad0 Qm hC hR hS hl hB hF)
end MROWS
