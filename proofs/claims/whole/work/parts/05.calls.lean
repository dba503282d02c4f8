/-! CALLS -/
def okR (n k : Nat) : Value → Prop
  | .ref a => ¬ (n ≤ a ∧ a < k)
  | _ => True
theorem tr_ok {ad ad' : Nat → Nat} {n k : Nat} (had : ∀ a, ¬ (n ≤ a ∧ a < k) → ad' a = ad a) {v : Value} (h : okR n k v) : tr ad' v = tr ad v := by
  cases v <;> first | rfl | exact congrArg Value.ref (had _ h)
theorem trl_ok {ad ad' : Nat → Nat} {n k : Nat} (had : ∀ a, ¬ (n ≤ a ∧ a < k) → ad' a = ad a) {l : List Value} (h : ∀ v ∈ l, okR n k v) : l.map (tr ad') = l.map (tr ad) :=
  List.map_congr_left fun v hv => tr_ok had (h v hv)
theorem asc_ok {ad ad' : Nat → Nat} {n k : Nat} (had : ∀ a, ¬ (n ≤ a ∧ a < k) → ad' a = ad a) {l : List (Option Value)} (h : ∀ v, some v ∈ l → okR n k v) : ∀ i, asc ad' i l = asc ad i l := by
  induction l with
  | nil => intro i; rfl
  | cons x l ih =>
    intro i
    have ih' := ih (fun v hv => h v (List.mem_cons_of_mem _ hv))
    cases x with
    | none => exact ih' (i + 1)
    | some v =>
      show (i, tr ad' v) :: _ = (i, tr ad v) :: _
      rw [ih' (i + 1), tr_ok had (h v List.mem_cons_self)]
def KJ (j : MI) (n : Nat) : Prop := Cond.code j.1 j.2.1 j.2.2.1 j.2.2.2 ∈ big ∧ Cond.initialized j.1.cls ∈ big ∧ j.2.2.1 ≤ 21 ∧ (j.1.cls ≠ "java/lang/invoke/MethodHandle" ∧ j.1.cls ≠ "java/lang/invoke/VarHandle" ∧ (parseMethodDescriptor j.1.desc).map (fun d => d.parameters.length) = some n)
def ML (own : String) (idx : Nat) (j : MI) : Prop := Cond.methodLink own idx j.1 ∈ big ∨ ∃ host, Cond.methodLinkNest own idx j.1 host ∈ lw_tbl
theorem good_big {w : Cond} (h : w ∈ big) : w ∈ big ∧ ((w.onTables && w.keeps) = true ∨ ∃ ty, w = .arrayClass ty) := ⟨h, good_of_word (List.mem_filter.mp h).2⟩
theorem goodIn_ws {j : MI} (h : Cond.code j.1 j.2.1 j.2.2.1 j.2.2.2 ∈ big) : GoodIn big (ws_ j) := fun w hw => by
  rcases List.mem_cons.mp hw with rfl | hw
  · exact good_big h
  · exact good_big hw
theorem PE_blind {q : CC} {ad : Nat → Nat} {σ : Wd} {sz : Nat} {av : List Value} : FrameBlind (va_Pc av (PE q ad σ sz)) := by
  intro a U g mk h
  obtain ⟨h1, hsz, hP, hK, hD, hSK, hag⟩ := h
  exact ⟨h1, hsz, hP, va_K.moved (u := U) (U := U.calling g mk a) (Vm.Alike.refl U.vm) hK, hD, hSK.blind, hag⟩
section CALL
variable {p : Program} {l : Launch} {e : Env} {R : Room} {s : State} {m : MethodId} {args : Array Value} {below : List Frame} {meth : Method} {c : Code} {cells slots : Nat} {H : Heap} {locs : List Loc} {la : Array Slot} {q : CC} {ad : Nat → Nat} {A : Nat → Prop} {n0 : Nat} {ad0 : Nat → Nat} {Qm : State → Prop}
variable {d k k' pc : Nat} {j : MI} {ls : List (Option Value)} {rest st0 : List Value} {σ : Wd} {Q Q' : List Value → Wd → Prop} {av : Array Value}
theorem Sx_in (hS : Sx q ad A s σ H locs) : ∀ a, va_A (ws0 q ad σ) H.size a → A a := by
  obtain ⟨hK, hSK, hA, hP, hD, hSS, hag⟩ := hS
  intro a h
  rcases h with ⟨i, e, h⟩ | h
  · exact hD.2 i (a, e) h
  · exact hA a (Nat.le_trans hSS.1 h)
theorem PE_pre (hS : Sx q ad A s σ H locs) {As : List Value} {U : State} (hU : U.heap = H) (hW : s.WarmedH U.vm) : va_Pc As (PE q ad σ H.size) As.toArray U := by
  have hin := Sx_in hS
  obtain ⟨hK, hSK, hA, hP, hD, hSS, hag⟩ := hS
  exact ⟨rfl, by rw [hU], by rw [hU]; exact hP, va_K.moved hW.alike hK, hD.weaken (fun _ _ _ _ => trivial), hSK.at hW hU hSS hin, hag⟩
set_option maxHeartbeats 1000000 in
theorem call_end (hC : Cx p s m args meth c j) (hR : d ≤ R.frames ∧ 40 * d ≤ R.locals) (hS : Sx q ad A s σ H locs) (hl : lv_has la j.2.2.1 (asc ad 0 ls)) (hB : Bd n0 ad0 k R cells slots σ ad) (hF : Fi_ p l e R s m args below meth c Qm q A n0 ad0 k j Q) (hk1 : σ.1 ≤ k') (hk2 : k' ≤ k) (hok : σ.1 = k' ∨ ((∀ v ∈ rest, okR σ.1 k' v) ∧ ∀ v, some v ∈ ls → okR σ.1 k' v))
    (hr : va_Run p l e R s m args below meth c H locs cells slots (k' - σ.1) (SZ k' - SZ σ.1) (F0 m pc la st0) (rest.map (tr ad)) (QE q (va_A (ws0 q ad σ) H.size) ad σ.1 k' Q' av) (va_A (ws0 q ad σ) H.size))
    (kk : ∀ vs σ', Q' vs σ' → X d k j (pc + 3) ls (vs ++ rest) σ' Q) : W p l e R s m args below meth c H locs cells slots Qm (F0 m pc la st0) := by
  have hin := Sx_in hS
  obtain ⟨hK, hSK, hA, hP, hD, hSS, hag⟩ := id hS
  obtain ⟨b1, b2, b3, b4, b5, b6⟩ := hB
  intro T hT XX
  obtain ⟨v, st₀, t, T', L, h0, X', hL, e1, e2, ⟨⟨vs, σ', ad', hv, hlen, hQ', hn', had, hP1, hD1, hag1⟩, hz, hkp⟩, stp⟩ := hr T hT XX
  rw [h0] at hz hkp
  have hz' : H.size ≤ T'.heap.size := by rw [e1]; exact hz
  have hkp' : ∀ a : Nat, a < H.size → ¬ va_A (ws0 q ad σ) H.size a → T'.heap[a]? = H[a]? := fun a h1 h2 => by rw [e1]; exact hkp a h1 h2
  have er : rest.map (tr ad') = rest.map (tr ad) ∧ asc ad' 0 ls = asc ad 0 ls := by
    rcases hok with h | h
    · have : ad' = ad := funext fun a => had a (by omega)
      rw [this]; exact ⟨rfl, rfl⟩
    · exact ⟨trl_ok had h.1, asc_ok had h.2 0⟩
  have hs1 := SZ_mono hk1
  have hs2 := SZ_mono hk2
  have hW := kk vs σ' hQ' p l e R s m args below meth c (cells + (k' - σ.1)) (slots + (SZ k' - SZ σ.1)) T'.heap (locs ++ L) la q ad' A n0 ad0 Qm hC hR
    ⟨hK, SK.ad hSK (fun a ha => had a (by omega)), hA, by rw [e1]; exact hP1, hD1.weaken (fun _ x _ h => hin x.1 h), ⟨Nat.le_trans hSS.1 hz', fun a h1 h2 => by rw [hkp' a (Nat.lt_of_lt_of_le h1 hSS.1) (fun h => h2 (hin a h))]; exact hSS.2.1 a h1 h2, fun x hx => by
      rcases List.mem_append.mp hx with h | h
      · exact hSS.2.2 x h
      · exact hin _ (hL x h)⟩, hag1⟩
    (by rw [er.2]; exact hl) ⟨by omega, by omega, b3, by rw [hn']; omega, by rw [hn']; omega, fun a ha => by rw [had a (by omega)]; exact b6 a ha⟩ hF
  have ev : v.toList = vs.map (tr ad') := by
    have hv2 : v = (vs.map (tr ad')).head? := by injection hv
    rw [hv2]
    match vs, hlen with
    | [], _ => rfl
    | [x], _ => rfl
    | _ :: _ :: _, h => simp at h
  have eS : (vs ++ rest).map (tr ad') = v.toList ++ rest.map (tr ad) := by rw [List.map_append, er.1, ev]
  rw [eS] at hW
  obtain ⟨t2, a1, c1⟩ := hW T' rfl X'
  exact ⟨t2, stp t2 a1, c1⟩
end CALL
section CROWS
variable {d d' k k' pc nx idx n : Nat} {j j' : MI} {ls : List (Option Value)} {st As rest : List Value} {σ : Wd} {Q Q' : List Value → Wd → Prop}
theorem rooms {R : Room} {mc ms maxL : Nat} (hR : d ≤ R.frames ∧ 40 * d ≤ R.locals) (hd : d' < d) (hm : maxL ≤ 21) : ({ frames := d', cells := mc, slots := ms, locals := 40 * d' } : Room).frames + 1 ≤ R.frames ∧ 8 + (maxL + 11) + ({ frames := d', cells := mc, slots := ms, locals := 40 * d' } : Room).locals ≤ R.locals := by
  refine ⟨?_, ?_⟩
  · show d' + 1 ≤ R.frames; omega
  · show 8 + (maxL + 11) + 40 * d' ≤ R.locals; omega
theorem cat_map {ad : Nat → Nat} (l : List Value) : ((l.map (tr ad)).map fun v => v.category) = l.map fun v => v.category := by
  rw [List.map_map]
  exact List.map_congr_left fun v _ => tr_cat ad v
theorem X_callS (hd : decode j.2.1 pc = .ok (.invokestatic idx, 3)) (hn : pc + 3 = nx) (hl0 : ML j.1.cls idx j') (hj : KJ j' n) (hv : Cond.static j'.1 ∈ big) (hE : E d' k' j' As σ Q') (hst : st = As.reverse ++ rest) (hd' : d' < d) (hlen : As.length = n) (hcat : (rest.map fun v => v.category).sum ≤ 8) (hk1 : σ.1 ≤ k') (hk2 : k' ≤ k) (hok : σ.1 = k' ∨ ((∀ v ∈ rest, okR σ.1 k' v) ∧ ∀ v, some v ∈ ls → okR σ.1 k' v)) (kk : ∀ vs σ', Q' vs σ' → X d k j nx ls (vs ++ rest) σ' Q) : X d k j pc ls st σ Q := by
  subst hn; subst hst
  intro p l e R s m args below meth c cells slots H locs la q ad A n0 ad0 Qm hC hR hS hl hB hF
  obtain ⟨hx, hb, hr, hml, hown, hts, hlk, hini⟩ := id hC
  obtain ⟨hK, hSK, hA, hP, hD, hSS, hag⟩ := id hS
  obtain ⟨k1, k2, k3, k4⟩ := hj
  have hs1 := SZ_mono hk1
  have hs2 := SZ_mono hk2
  have hf : cells + (k' - σ.1) ≤ R.cells ∧ slots + (SZ k' - SZ σ.1) ≤ R.slots := ⟨by have := hB.2.2.2.1; omega, by have := hB.2.2.2.2.1; omega⟩
  have hroom : 2 * (F0 m pc la ((As.reverse ++ rest).map (tr ad))).monitorRoom + ((rest.map (tr ad)).map fun v => v.category).sum ≤ 8 := lv_room (by rw [cat_map]; exact hcat)
  have hstk : (As.reverse ++ rest).map (tr ad) = (As.map (tr ad)).reverse ++ rest.map (tr ad) := by simp [List.map_append, List.map_reverse, tr]
  rcases hl0 with hl0 | ⟨host, hl0⟩
  · exact call_end hC hR hS hl hB hF hk1 hk2 hok (va_runS (As := As.map (tr ad)) (rest := rest.map (tr ad)) ⟨hx, hb, hml, hown, hts⟩ (hE l q ad H.size) ⟨callB_of n hts (goodIn_ws k1) rfl rfl rfl (hts _ k2) (hts _ hl0) k4 (rooms hR hd' k3), hts _ hv⟩ ⟨PE_blind, fun U hU hW => PE_pre hS hU hW⟩ rfl (by rw [List.length_map]; exact hlen) hl.1 hstk hroom hd hf) kk
  · exact call_end hC hR hS hl hB hF hk1 hk2 hok (va_runSN (As := As.map (tr ad)) (rest := rest.map (tr ad)) ⟨hx, hb, hml, hown, hts⟩ (hE l q ad H.size) ⟨va_cnB n hts (goodIn_ws k1) rfl rfl rfl (hSK.2.2.2.1 _ hl0 rfl) (hts _ k2) k4 (rooms hR hd' k3), hts _ hv, trivial⟩ ⟨PE_blind, fun U hU hW => PE_pre hS hU hW⟩ rfl (by rw [List.length_map]; exact hlen) hl.1 hstk hroom hd hf) kk
theorem X_callV {a ci : Nat} {T : u_T} {N : Nat} (hd : decode j.2.1 pc = .ok (.invokevirtual idx, 3)) (hn : pc + 3 = nx) (hl0 : ML j.1.cls idx j') (hj : KJ j' n) (hv : Cond.instanceMethod j'.1 ∈ big ∧ Cond.selects j'.1.cls j'.1 j'.1 ∈ big) (ha : a < σ.1) (hc : (lay a).1 = ci) (hc8 : ci < 8) (hcl : vwCl[ci]? = some (j'.1.cls, T, N)) (hE : E d' k' j' (.ref a :: As) σ Q') (hst : st = As.reverse ++ .ref a :: rest) (hd' : d' < d) (hlen : As.length = n) (hcat : (rest.map fun v => v.category).sum ≤ 8) (hk1 : σ.1 ≤ k') (hk2 : k' ≤ k) (hok : σ.1 = k' ∨ ((∀ v ∈ rest, okR σ.1 k' v) ∧ ∀ v, some v ∈ ls → okR σ.1 k' v)) (kk : ∀ vs σ', Q' vs σ' → X d k j nx ls (vs ++ rest) σ' Q) : X d k j pc ls st σ Q := by
  subst hn; subst hst
  intro p l e R s m args below meth c cells slots H locs la q ad A n0 ad0 Qm hC hR hS hl hB hF
  obtain ⟨hx, hb, hr, hml, hown, hts, hlk, hini⟩ := id hC
  obtain ⟨hK, hSK, hA, hP, hD, hSS, hag⟩ := id hS
  obtain ⟨k1, k2, k3, k4⟩ := hj
  have hs1 := SZ_mono hk1
  have hs2 := SZ_mono hk2
  have hf : cells + (k' - σ.1) ≤ R.cells ∧ slots + (SZ k' - SZ σ.1) ≤ R.slots := ⟨by have := hB.2.2.2.1; omega, by have := hB.2.2.2.2.1; omega⟩
  have hroom : 2 * (F0 m pc la ((As.reverse ++ .ref a :: rest).map (tr ad))).monitorRoom + ((rest.map (tr ad)).map fun v => v.category).sum ≤ 8 := lv_room (by rw [cat_map]; exact hcat)
  have hstk : (As.reverse ++ .ref a :: rest).map (tr ad) = (As.map (tr ad)).reverse ++ .ref (ad a) :: rest.map (tr ad) := by simp [List.map_append, List.map_reverse, tr]
  have he := WS_at (ad := ad) (cI := q.2.1) (cR := q.2.2.1) ha
  rw [cel_obj hc hc8] at he
  have hrecv := va_recv hK hP hcl he
  rcases hl0 with hl0 | ⟨host, hl0⟩
  · exact call_end hC hR hS hl hB hF hk1 hk2 hok (va_runV (C := j'.1.cls) (As := As.map (tr ad)) (rest := rest.map (tr ad)) ⟨hx, hb, hml, hown, hts⟩ (hE l q ad H.size) ⟨callB_of n hts (goodIn_ws k1) rfl rfl rfl (hts _ k2) (hts _ hl0) k4 (rooms hR hd' k3), hts _ hv.1, hts _ hv.2⟩ ⟨PE_blind, hrecv, fun U hU hW => PE_pre hS hU hW⟩ rfl (by rw [List.length_map]; exact hlen) hl.1 hstk hroom hd hf) kk
  · exact call_end hC hR hS hl hB hF hk1 hk2 hok (va_runVN (C := j'.1.cls) (As := As.map (tr ad)) (rest := rest.map (tr ad)) ⟨hx, hb, hml, hown, hts⟩ (hE l q ad H.size) ⟨va_cnB n hts (goodIn_ws k1) rfl rfl rfl (hSK.2.2.2.1 _ hl0 rfl) (hts _ k2) k4 (rooms hR hd' k3), hts _ hv.1, hts _ hv.2⟩ ⟨PE_blind, hrecv, fun U hU hW => PE_pre hS hU hW⟩ rfl (by rw [List.length_map]; exact hlen) hl.1 hstk hroom hd hf) kk
theorem X_callI {a : Nat} (hd : decode j.2.1 pc = .ok (.invokespecial idx, 3)) (hn : pc + 3 = nx) (hl0 : ML j.1.cls idx j') (hj : KJ j' n) (hv : Cond.instanceMethod j'.1 ∈ big) (hnm : j'.1.name = "<init>") (hret : j'.2.2.2 = none) (hE : E d' k' j' (.ref a :: As) σ Q') (hst : st = As.reverse ++ .ref a :: rest) (hd' : d' < d) (hlen : As.length = n) (hcat : (rest.map fun v => v.category).sum ≤ 8) (hk1 : σ.1 ≤ k') (hk2 : k' ≤ k) (hok : σ.1 = k' ∨ ((∀ v ∈ rest, okR σ.1 k' v) ∧ ∀ v, some v ∈ ls → okR σ.1 k' v)) (kk : ∀ vs σ', Q' vs σ' → X d k j nx ls (vs ++ rest) σ' Q) : X d k j pc ls st σ Q := by
  subst hn; subst hst
  intro p l e R s m args below meth c cells slots H locs la q ad A n0 ad0 Qm hC hR hS hl hB hF
  obtain ⟨hx, hb, hr, hml, hown, hts, hlk, hini⟩ := id hC
  obtain ⟨hK, hSK, hA, hP, hD, hSS, hag⟩ := id hS
  obtain ⟨k1, k2, k3, k4⟩ := hj
  have hs1 := SZ_mono hk1
  have hs2 := SZ_mono hk2
  have hf : cells + (k' - σ.1) ≤ R.cells ∧ slots + (SZ k' - SZ σ.1) ≤ R.slots := ⟨by have := hB.2.2.2.1; omega, by have := hB.2.2.2.2.1; omega⟩
  have hroom : 2 * (F0 m pc la ((As.reverse ++ .ref a :: rest).map (tr ad))).monitorRoom + ((rest.map (tr ad)).map fun v => v.category).sum ≤ 8 := lv_room (by rw [cat_map]; exact hcat)
  have hstk : (As.reverse ++ .ref a :: rest).map (tr ad) = (As.map (tr ad)).reverse ++ .ref (ad a) :: rest.map (tr ad) := by simp [List.map_append, List.map_reverse, tr]
  obtain ⟨y', c', m', r'⟩ := j'
  dsimp only at hret hnm
  subst hret
  rcases hl0 with hl0 | ⟨host, hl0⟩
  · exact call_end hC hR hS hl hB hF hk1 hk2 hok (va_runI (As := As.map (tr ad)) (rest := rest.map (tr ad)) ⟨hx, hb, hml, hown, hts⟩ (hE l q ad H.size) ⟨callB_of n hts (goodIn_ws k1) rfl rfl rfl (hts _ k2) (hts _ hl0) k4 (rooms hR hd' k3), hnm, hts _ hv⟩ ⟨PE_blind, fun U hU hW => PE_pre hS hU hW⟩ rfl (by rw [List.length_map]; exact hlen) hl.1 hstk hroom hd hf) kk
  · exact call_end hC hR hS hl hB hF hk1 hk2 hok (va_runIN (As := As.map (tr ad)) (rest := rest.map (tr ad)) ⟨hx, hb, hml, hown, hts⟩ (hE l q ad H.size) ⟨va_cnB n hts (goodIn_ws k1) rfl rfl rfl (hSK.2.2.2.1 _ hl0 rfl) (hts _ k2) k4 (rooms hR hd' k3), hnm, hts _ hv⟩ ⟨PE_blind, fun U hU hW => PE_pre hS hU hW⟩ rfl (by rw [List.length_map]; exact hlen) hl.1 hstk hroom hd hf) kk
end CROWS
