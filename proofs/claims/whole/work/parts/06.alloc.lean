/-! CELLS ARE MADE -/
/-- one cell more, empty -/
def newW (σ : Wd) : Wd := (σ.1 + 1, (fun a => if a = σ.1 then (fun _ => none) else σ.2.1 a), (fun a => if a = σ.1 then (fun _ => 0) else σ.2.2 a))
theorem newW_agr {xs : Nat → Int32} {L : Nat} {σ : Wd} (h0 : σ.1 < 138) (h : agr xs L σ) : agr xs L (newW σ) := by
  obtain ⟨h1, h2, h3, h4⟩ := h
  refine ⟨?_, ?_, h3, ?_⟩
  · show (if 2003 = σ.1 then _ else σ.2.2 2003) = xs
    rw [if_neg (by omega)]; exact h1
  · show (if 2004 = σ.1 then (fun _ => (0 : Int32)) else σ.2.2 2004) 0 = nI L
    rw [if_neg (by omega)]; exact h2
  · intro b i c h
    show c < σ.1 + 1
    have h' : (if b = σ.1 then (fun _ => none) else σ.2.1 b) i = some c := h
    by_cases hb : b = σ.1
    · rw [if_pos hb] at h'; cases h'
    · rw [if_neg hb] at h'; have := h4 b i c h'; omega
theorem newW_cel {ad ad' : Nat → Nat} {cI cR : ClassId} {xs : Nat → Int32} {L : Nat} {σ : Wd} (hag : agr xs L σ) (had : ∀ a, a ≠ σ.1 → ad' a = ad a) {b : Nat} (hb : b < σ.1) : cel ad' cI cR (newW σ).2.1 (newW σ).2.2 b = cel ad cI cR σ.2.1 σ.2.2 b := by
  have hne : b ≠ σ.1 := by omega
  have e1 : (newW σ).2.1 b = σ.2.1 b := by show (if b = σ.1 then _ else σ.2.1 b) = _; rw [if_neg hne]
  have e2 : (newW σ).2.2 b = σ.2.2 b := by show (if b = σ.1 then _ else σ.2.2 b) = _; rw [if_neg hne]
  have em : ∀ i, ((σ.2.1 b i).map ad') = (σ.2.1 b i).map ad := by
    intro i
    cases h : σ.2.1 b i with
    | none => rfl
    | some c =>
      have := hag.2.2.2 b i c h
      show some (ad' c) = some (ad c)
      rw [had c (by omega)]
  have e3 : slt ad' (newW σ).2.1 (newW σ).2.2 (lay b).1 b = slt ad σ.2.1 σ.2.2 (lay b).1 b := by
    funext i
    unfold slt
    rw [e1, e2, em]
  unfold cel
  rw [e3, e1, e2]
  have e4 : (fun j => (σ.2.1 b j).map ad') = (fun j => (σ.2.1 b j).map ad) := funext em
  rw [e4]
theorem newW_slt {ad : Nat → Nat} {σ : Wd} {ci i : Nat} : slt ad (newW σ).2.1 (newW σ).2.2 ci σ.1 i = if isP ci i = true then .null else .int 0 := by
  have e1 : (newW σ).2.1 σ.1 = fun _ => none := by show (if σ.1 = σ.1 then _ else _) = _; rw [if_pos rfl]
  have e2 : (newW σ).2.2 σ.1 = fun _ => 0 := by show (if σ.1 = σ.1 then _ else _) = _; rw [if_pos rfl]
  unfold slt
  rw [e1, e2]
  rfl
section NEW
variable {p : Program} {l : Launch} {e : Env} {R : Room} {s : State} {m : MethodId} {args : Array Value} {below : List Frame} {meth : Method} {c : Code} {cells slots : Nat} {H : Heap} {locs : List Loc} {la : Array Slot} {q : CC} {ad : Nat → Nat} {A : Nat → Prop} {n0 : Nat} {ad0 : Nat → Nat} {Qm : State → Prop}
variable {d k pc : Nat} {j : MI} {ls : List (Option Value)} {st rest : List Value} {σ : Wd} {Q : List Value → Wd → Prop}
/-- behind a new cell -/
theorem made_end (hC : Cx p s m args meth c j) (hR : d ≤ R.frames ∧ 40 * d ≤ R.locals) (hS : Sx q ad A s σ H locs) (hl : lv_has la j.2.2.1 (asc ad 0 ls)) (hB : Bd n0 ad0 k R cells slots σ ad) (hF : Fi_ p l e R s m args below meth c Qm q A n0 ad0 k j Q) (hk : σ.1 < k) (hok : (∀ v ∈ rest, okR σ.1 (σ.1 + 1) v) ∧ ∀ v, some v ∈ ls → okR σ.1 (σ.1 + 1) v)
    {a : Nat} {x : va_E} {H1 : Heap} (hx : x = cel (va_up ad σ.1 a) q.2.1 q.2.2.1 (newW σ).2.1 (newW σ).2.2 σ.1) (hP1 : va_P q.1 vwCl (ws0 q ad σ ++ [(a, x)]) H1) (hD1 : va_D A (ws0 q ad σ ++ [(a, x)])) (hS1 : va_S A s.heap H1 locs) {z : Nat} (hz : szc σ.1 = z)
    (kk : X d k j pc ls (.ref σ.1 :: rest) (newW σ) Q) : W p l e R s m args below meth c H1 locs (cells + 1) (slots + z) Qm (F0 m pc la (.ref a :: rest.map (tr ad))) := by
  obtain ⟨hK, hSK, hA, hP, hD, hSS, hag⟩ := hS
  obtain ⟨b1, b2, b3, b4, b5, b6⟩ := hB
  have had : ∀ b, b ≠ σ.1 → va_up ad σ.1 a b = ad b := fun b h => va_up_ne ad a h
  have had' : ∀ b, ¬ (σ.1 ≤ b ∧ b < σ.1 + 1) → va_up ad σ.1 a b = ad b := fun b h => had b (by omega)
  have hw : ws0 q ad σ ++ [(a, x)] = ws0 q (va_up ad σ.1 a) (newW σ) := WS_push rfl (va_up_self ad σ.1 a) hx (fun b hb => ⟨had b (by omega), newW_cel hag had hb⟩)
  rw [hw] at hP1 hD1
  have er : rest.map (tr (va_up ad σ.1 a)) = rest.map (tr ad) := trl_ok had' hok.1
  have ea : asc (va_up ad σ.1 a) 0 ls = asc ad 0 ls := asc_ok had' hok.2 0
  have hs1 : SZ (σ.1 + 1) = SZ σ.1 + szc σ.1 := rfl
  have hs2 := SZ_mono (show σ.1 + 1 ≤ k by omega)
  have hW := kk p l e R s m args below meth c (cells + 1) (slots + z) H1 locs la q (va_up ad σ.1 a) A n0 ad0 Qm hC hR ⟨hK, SK.ad hSK (fun b hb => had b (by omega)), hA, hP1, hD1, hS1, newW_agr (by omega) hag⟩ (by rw [ea]; exact hl)
    ⟨show n0 ≤ σ.1 + 1 by omega, show σ.1 + 1 ≤ k by omega, b3, by show cells + 1 + (k - (σ.1 + 1)) ≤ R.cells; omega, by show slots + z + (SZ k - SZ (σ.1 + 1)) ≤ R.slots; omega, fun b hb => by rw [had b (by omega)]; exact b6 b hb⟩ hF
  have eS : ((.ref σ.1 :: rest : List Value)).map (tr (va_up ad σ.1 a)) = .ref a :: rest.map (tr ad) := by
    show Value.ref (va_up ad σ.1 a σ.1) :: rest.map (tr (va_up ad σ.1 a)) = _
    rw [va_up_self, er]
  rw [eS] at hW
  exact hW
end NEW
section AROWS
variable {d k pc nx idx : Nat} {j : MI} {ls : List (Option Value)} {st : List Value} {σ : Wd} {Q : List Value → Wd → Prop}

theorem X_new {ci N : Nat} {C : String} {T : u_T} {ty : Nat → FieldType} (hd : decode j.2.1 pc = .ok (.new idx, 3)) (hn : pc + 3 = nx) (hcf : CF ci C T N ty) (h1 : Cond.classLink j.1.cls idx C ∈ big) (h2 : Cond.instantiable C N ∈ big) (h3 : Cond.initialized C ∈ big) (hc : (lay σ.1).1 = ci) (hk : σ.1 < k) (hok : (∀ v ∈ st, okR σ.1 (σ.1 + 1) v) ∧ ∀ v, some v ∈ ls → okR σ.1 (σ.1 + 1) v) (kk : X d k j nx ls (.ref σ.1 :: st) (newW σ) Q) : X d k j pc ls st σ Q := by
  subst hn
  intro p l e R s m args below meth c cells slots H locs la q ad A n0 ad0 Qm hC hR hS hl hB hF
  obtain ⟨hx, hb, hr, hml, hown, hts, hlk, hini⟩ := id hC
  obtain ⟨hK, hSK, hA, hP, hD, hSS, hag⟩ := id hS
  obtain ⟨c1, c2, c3, c4, c5, c6, c7, c8⟩ := hcf
  have hs1 : SZ (σ.1 + 1) = SZ σ.1 + szc σ.1 := rfl
  have hs2 := SZ_mono (show σ.1 + 1 ≤ k by omega)
  have hz : szc σ.1 = N := by
    unfold szc
    rw [hc, if_neg (by omega)]
    exact c2
  refine va_new (ci := ci) (fs := (List.range (nSl ci)).map (fun i => if isP ci i = true then Value.null else .int 0)) hx hb hts c5 ty c6 hown (hts _ h1) (hts _ h2) (hts _ h3) hK hP hD hSS hA c1 (fun i hi => ?_) (by have := hB.2.2.2.1; omega) (by have := hB.2.2.2.2.1; omega) hd (fun a H1 hP1 hD1 hS1 => ?_)
  · have h8 := (c8 i hi).2
    unfold vp_V
    rw [List.getD_eq_getElem?_getD, List.getElem?_map, List.getElem?_range (by rw [c2]; exact hi)]
    show defaultValue (ty i) = if isP ci i = true then Value.null else .int 0
    by_cases hp : isP ci i = true
    · rw [if_pos hp] at h8 ⊢
      rcases h8 with ⟨t, h8⟩ | ⟨t, h8⟩ <;> rw [h8] <;> rfl
    · rw [if_neg hp] at h8 ⊢
      rw [h8]
      split <;> rfl
  · refine made_end (x := .inr (ci, (List.range (nSl ci)).map (fun i => if isP ci i = true then Value.null else .int 0))) hC hR hS hl hB hF hk hok ?_ hP1 hD1 hS1 hz kk
    rw [cel_obj hc c3]
    congr 2
    exact List.map_congr_left fun i _ => newW_slt.symm
theorem X_newa {n : Int32} {N' : Nat} (hd : decode j.2.1 pc = .ok (.newarray .int, 2)) (hn : pc + 2 = nx) (hac : Cond.arrayClass .int ∈ big) (hnn : ¬ n < 0) (hN : n.toNatClampNeg = N') (hc : lay σ.1 = (8, N')) (hle : N' ≤ 1000) (hk : σ.1 < k) (hok : (∀ v ∈ st, okR σ.1 (σ.1 + 1) v) ∧ ∀ v, some v ∈ ls → okR σ.1 (σ.1 + 1) v) (kk : X d k j nx ls (.ref σ.1 :: st) (newW σ) Q) : X d k j pc ls (.int n :: st) σ Q := by
  subst hn
  intro p l e R s m args below meth c cells slots H locs la q ad A n0 ad0 Qm hC hR hS hl hB hF
  obtain ⟨hx, hb, hr, hml, hown, hts, hlk, hini⟩ := id hC
  obtain ⟨hK, hSK, hA, hP, hD, hSS, hag⟩ := id hS
  have hs1 : SZ (σ.1 + 1) = SZ σ.1 + szc σ.1 := rfl
  have hs2 := SZ_mono (show σ.1 + 1 ≤ k by omega)
  have hz : szc σ.1 = N' := by
    unfold szc
    rw [hc, if_pos (Or.inl rfl)]
  refine va_newa (atype := .int) (ty := .int) hx hb (hts _ hac) rfl hK hP hD hSS hA (a0 := (N', .inl (fun _ => 0))) (fun cA => rfl) hnn hN (by show N' * 4 ≤ 536870912; omega) (by have := hB.2.2.2.1; omega) (by have := hB.2.2.2.2.1; omega) hd (fun a cA H1 hK1 hP1 hD1 hS1 => ?_)
  have hcA : cA = q.2.1 := by
    have g1 := (hK1.2 2 (cA, .int) rfl).2
    have g2 := (hK1.2 0 (q.2.1, .int) rfl).2
    exact Option.some.inj (Eq.trans (Eq.symm g1) g2)
  subst hcA
  refine made_end (x := .inl (q.2.1, N', .inl (fun _ => 0))) hC hR hS hl hB hF hk hok ?_ hP1 hD1 hS1 hz kk
  rw [cel_int (by rw [hc])]
  have e2 : (newW σ).2.2 σ.1 = fun _ => 0 := by show (if σ.1 = σ.1 then _ else _) = _; rw [if_pos rfl]
  rw [e2, hc]
theorem X_newq {n : Int32} {N' : Nat} (hd : decode j.2.1 pc = .ok (.anewarray idx, 3)) (hn : pc + 3 = nx) (hcl : Cond.classLink j.1.cls idx RX4 ∈ big) (hnn : ¬ n < 0) (hN : n.toNatClampNeg = N') (hc : lay σ.1 = (9, N')) (hle : N' ≤ 1000) (hk : σ.1 < k) (hok : (∀ v ∈ st, okR σ.1 (σ.1 + 1) v) ∧ ∀ v, some v ∈ ls → okR σ.1 (σ.1 + 1) v) (kk : X d k j nx ls (.ref σ.1 :: st) (newW σ) Q) : X d k j pc ls (.int n :: st) σ Q := by
  subst hn
  intro p l e R s m args below meth c cells slots H locs la q ad A n0 ad0 Qm hC hR hS hl hB hF
  obtain ⟨hx, hb, hr, hml, hown, hts, hlk, hini⟩ := id hC
  obtain ⟨hK, hSK, hA, hP, hD, hSS, hag⟩ := id hS
  have hs1 : SZ (σ.1 + 1) = SZ σ.1 + szc σ.1 := rfl
  have hs2 := SZ_mono (show σ.1 + 1 ≤ k by omega)
  have hz : szc σ.1 = N' := by
    unfold szc
    rw [hc, if_pos (Or.inr rfl)]
  refine va_newq (C := RX4) hx hb hown (hts _ hcl) hSK.2.2.2.2 hK hP hD hSS hA hnn hN (by omega) (by have := hB.2.2.2.1; omega) (by have := hB.2.2.2.2.1; omega) hd (fun a cA H1 hK1 hP1 hD1 hS1 => ?_)
  have hcA : cA = q.2.2.1 := by
    obtain ⟨_, _, _, _, _, g1⟩ := (hK1.2 2 (cA, .object RX4) rfl).2
    obtain ⟨_, _, _, _, _, g2⟩ := (hK1.2 1 (q.2.2.1, .object RX4) rfl).2
    exact Option.some.inj (Eq.trans (Eq.symm g1) g2)
  subst hcA
  refine made_end (x := .inl (q.2.2.1, N', .inr (.inr (.inr (.inr (fun _ => none)))))) hC hR hS hl hB hF hk hok ?_ hP1 hD1 hS1 hz kk
  rw [cel_ref (by rw [hc])]
  have e1 : (newW σ).2.1 σ.1 = fun _ => none := by show (if σ.1 = σ.1 then _ else _) = _; rw [if_pos rfl]
  rw [e1, hc]
  rfl
theorem agr_ptr {xs : Nat → Int32} {L : Nat} {a i b : Nat} (hb : b < σ.1) (h : agr xs L σ) : agr xs L (σ.1, up2 σ.2.1 a i (some b), σ.2.2) := by
  refine ⟨h.1, h.2.1, h.2.2.1, fun x y z hz => ?_⟩
  have hz' : (if x = a ∧ y = i then some b else σ.2.1 x y) = some z := hz
  split at hz'
  · cases hz'; exact hb
  · exact h.2.2.2 x y z hz'
theorem X_putP {ci kf a b N : Nat} {C : String} {T : u_T} {ty : Nat → FieldType} (hd : decode j.2.1 pc = .ok (.putfield idx, 3)) (hn : pc + 3 = nx) (hcf : CF ci C T N ty) (hk : kf < N) (hw : Cond.fieldLink j.1.cls idx C (T kf).2.1 (T kf).2.2.1 ∈ big) (hj : j.1.cls = C) (hin : j.1.name = "<init>") (hp : isP ci kf = true) (ha : a < σ.1) (hb0 : b < σ.1) (hc : (lay a).1 = ci) (kk : X d k j nx ls st (σ.1, up2 σ.2.1 a kf (some b), σ.2.2) Q) : X d k j pc ls (.ref b :: .ref a :: st) σ Q := by
  subst hn
  intro p l e R s m args below meth c cells slots H locs la q ad A n0 ad0 Qm hC hR hS hl hB hF
  obtain ⟨hx, hb, hr, hml, hown, hts, hlk, hini⟩ := id hC
  obtain ⟨hK, hSK, hA, hP, hD, hSS, hag⟩ := id hS
  obtain ⟨c1, c2, c3, c4, c5, c6, c7, c8⟩ := hcf
  have he := WS_at (ad := ad) (cI := q.2.1) (cR := q.2.2.1) ha
  rw [cel_obj hc c3] at he
  have h8 := c8 kf hk
  rw [if_pos hp] at h8
  have hset := slt_set (ad := ad) (P := σ.2.1) (P' := up2 σ.2.1 a kf (some b)) (D := σ.2.2) (D' := σ.2.2) (ci := ci) (a := a) (k := kf) (v := .ref (ad b)) (by unfold slt; rw [if_pos hp]; simp [up2, va_rf]) (fun i hi => by unfold slt; simp [up2, hi])
  have hws := WS_set (ad := ad) (cI := q.2.1) (cR := q.2.2.1) (σ := σ) (σ' := (σ.1, up2 σ.2.1 a kf (some b), σ.2.2)) (a := a) (e := .inr (ci, ((List.range (nSl ci)).map (slt ad σ.2.1 σ.2.2 ci a)).set kf (.ref (ad b)))) rfl (by rw [hset, cel_obj hc c3]) (fun x hx' => cel_other (up2_ne hx') rfl)
  have hag' := agr_ptr (a := a) (i := kf) hb0 hag
  have hlen : kf < ((List.range (nSl ci)).map (slt ad σ.2.1 σ.2.2 ci a)).length := by simp; rw [c2]; exact hk
  have hnr : narrow (ty kf) (.ref (ad b)) = .ref (ad b) ∧ fits (ty kf) (.ref (ad b)) = true := by
    rcases h8.2 with ⟨t, h⟩ | ⟨t, h⟩ <;> rw [h] <;> exact ⟨rfl, rfl⟩
  refine va_putF (v := .ref (ad b)) (D := q.1) (ci := ci) (C := C) (T := T) (N := N) (ref := C) hx hb hts c5 ty c6 c7 hown hK hP hD hSS a he c1 kf hk (hts _ hw) (fun _ h9 => by rw [c4 kf hk] at h9; exact h9) (h8.1.trans hp) (hini hin) ((c4 kf hk).trans hj.symm) (c6 kf hk) hnr.1 hnr.2 hlen hd (fun H1 locs1 hP1 hD1 hS1 => ?_)
  rw [hws] at hP1 hD1
  exact kk p l e R s m args below meth c cells slots H1 locs1 la q ad A n0 ad0 Qm hC hR ⟨hK, hSK, hA, hP1, hD1, hS1, hag'⟩ hl hB hF
theorem X_aast {a b : Nat} {i : Int32} (hd : decode j.2.1 pc = .ok (.aastore, 1)) (hn : pc + 1 = nx) (ha : a < σ.1) (hc : (lay a).1 = 9) (hb0 : b < σ.1) (hcb : (lay b).1 = 3) (hin : vp_in i (lay a).2) (kk : X d k j nx ls st (σ.1, up2 σ.2.1 a i.toNatClampNeg (some b), σ.2.2) Q) : X d k j pc ls (.ref b :: .int i :: .ref a :: st) σ Q := by
  subst hn
  intro p l e R s m args below meth c cells slots H locs la q ad A n0 ad0 Qm hC hR hS hl hB hF
  obtain ⟨hx, hb, hr, hml, hown, hts, hlk, hini⟩ := id hC
  obtain ⟨hK, hSK, hA, hP, hD, hSS, hag⟩ := id hS
  have he := WS_at (ad := ad) (cI := q.2.1) (cR := q.2.2.1) ha
  rw [cel_ref hc] at he
  have heb := WS_at (ad := ad) (cI := q.2.1) (cR := q.2.2.1) hb0
  rw [cel_obj hcb (by omega)] at heb
  have hrow : (fun x => (up2 σ.2.1 a i.toNatClampNeg (some b) a x).map ad) = va_up (fun x => (σ.2.1 a x).map ad) i.toNatClampNeg (some (ad b)) := by
    funext x
    by_cases hx' : x = i.toNatClampNeg
    · simp [up2, va_up, hx']
    · simp [up2, va_up, hx']
  have hws := WS_set (ad := ad) (cI := q.2.1) (cR := q.2.2.1) (σ := σ) (σ' := (σ.1, up2 σ.2.1 a i.toNatClampNeg (some b), σ.2.2)) (a := a) (e := .inl (q.2.2.1, (lay a).2, .inr (.inr (.inr (.inr (va_up (fun x => (σ.2.1 a x).map ad) i.toNatClampNeg (some (ad b)))))))) rfl (by rw [cel_ref hc, ← hrow]) (fun x hx' => cel_other (up2_ne hx') rfl)
  have hag' := agr_ptr (a := a) (i := i.toNatClampNeg) hb0 hag
  refine va_astq (r := (RX4, TX4, 7)) (ci := 3) hx hb hK hP hD hSS a 1 b he rfl heb rfl hin hd (fun H1 locs1 hP1 hD1 hS1 => ?_)
  rw [hws] at hP1 hD1
  exact kk p l e R s m args below meth c cells slots H1 locs1 la q ad A n0 ad0 Qm hC hR ⟨hK, hSK, hA, hP1, hD1, hS1, hag'⟩ hl hB hF
theorem X_objInit {a : Nat} (hd : decode j.2.1 pc = .ok (.invokespecial idx, 3)) (hn : pc + 3 = nx) (h1 : Cond.methodLink j.1.cls idx objectInit ∈ big) (h2 : Cond.instanceMethod objectInit ∈ big) (h3 : Cond.code objectInit ⟨#[0xb1]⟩ 1 none ∈ big) (hd1 : 1 ≤ d) (hcat : (st.map fun v => v.category).sum ≤ 8) (kk : X d k j nx ls st σ Q) : X d k j pc ls (.ref a :: st) σ Q := by
  subst hn
  intro p l e R s m args below meth c cells slots H locs la q ad A n0 ad0 Qm hC hR hS hl hB hF
  obtain ⟨hx, hb, hr, hml, hown, hts, hlk, hini⟩ := id hC
  obtain ⟨hK, hSK, hA, hP, hD, hSS, hag⟩ := id hS
  refine W.objInit (g := F0 m pc la ((.ref a :: st : List Value).map (tr ad))) (rest := st.map (tr ad)) hx hb hown (hts _ h1) (hts _ h2) (hts _ h3) rfl (by rw [hml]; exact hl.1) rfl hd (by omega) (by have := cat_map (ad := ad) st; rw [this]; show 2 * 0 + _ + 12 ≤ _; omega) ?_
  exact W.eq rfl (kk p l e R s m args below meth c cells slots H locs la q ad A n0 ad0 Qm hC hR hS hl hB hF)
end AROWS
