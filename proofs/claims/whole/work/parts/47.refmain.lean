/-! THE REFERENCE: the whole looking -/
theorem ordS_n : ∀ i, i < 4 → (ordS i).length ≤ 7 ∧ 6 ≤ (ordS i).length := by decide
theorem ordS_s : ∀ i, i < 4 → ∀ k, k < (ordS i).length → ((ordS i).getD k 0 = 69 ∨ (ordS i).getD k 0 = 76 ∨ (ordS i).getD k 0 = 65 ∨ (ordS i).getD k 0 = 67 ∨ (ordS i).getD k 0 = 82 ∨ (ordS i).getD k 0 = 77) ∧ (ordS i).drop k = (ordS i).getD k 0 :: (ordS i).drop (k + 1) := by decide
section SIM2
variable {B : Bk} {T : Nat → Bool} {K F : Nat → Nat} {L : List Nat} {v : Nat} {C : Mem → Prop}
theorem child_l {t a m : Nat} {q : Nd} {ms : List (Nat × Nat)} {e : Nat} (hp : POS L t q a ms) (hL : L.length ≤ 4) (hm : m + t = 6) (ha : a < L.length) : POS L (t + 1) (q.1, q.2 ++ [e]) (a + 1) ms ∧ ∃ m', m = m' + 1 ∧ m' + (t + 1) = 6 := by
  obtain ⟨p1, p2, p3, p4, p5⟩ := hp
  have hlen : (q.2 ++ [e]).length = q.2.length + 1 := by rw [List.length_append]; rfl
  refine ⟨⟨p1, by show (q.2 ++ [e]).length ≤ a + 1; omega, by omega, p4, by omega⟩, ?_⟩
  cases m with
  | zero => omega
  | succ m => exact ⟨m, rfl, by omega⟩
theorem child_m {t a m k : Nat} {q : Nd} {ms : List (Nat × Nat)} (hp : POS L t q a ms) (hL : L.length ≤ 4) (hm : m + t = 6) (h1 : q.1 < mon B k) (h2 : mon B k < 3) : POS L (t + 1) (mon B k, []) a (ms ++ [(k, a)]) ∧ ∃ m', m = m' + 1 ∧ m' + (t + 1) = 6 := by
  obtain ⟨p1, p2, p3, p4, p5⟩ := hp
  have hlen : (ms ++ [(k, a)]).length = ms.length + 1 := by rw [List.length_append]; rfl
  refine ⟨⟨h2, Nat.zero_le _, p3, by show (ms ++ [(k, a)]).length ≤ mon B k; omega, by omega⟩, ?_⟩
  cases m with
  | zero => omega
  | succ m => exact ⟨m, rfl, by omega⟩
/-- the mounts of a node -/
theorem s_mount (hV : VB B) (hK : ∀ i, i < 3 → K i ≤ 5 ∧ F i ≤ 9) (hT : TLE B T) (hC : STEPC C) {n : Nat} (hI : ∀ n', n = n' + 1 → MAINP B T K F L v C n') : ∀ (j m : Nat) (D : Mem) (t a s R2 : Nat) (q : Nd) (ms : List (Nat × Nat)) (c : Bool), m + j = cm_ B → n + t = 6 → POS L t q a ms → NODE B T K F L v D t q a ms s m c R2 → s < 7 → cod (K q.1) s = 5 →
    (∀ D', (lkM (lk B (wT B T) v L K F n) B (wT B T) q a ms m (10 - m)).1 = none → MID t D D' (lkM (lk B (wT B T) v L K F n) B (wT B T) q a ms m (10 - m)).2 → NODE B T K F L v D' t q a ms (s + 1) 0 c R2 → C D') →
    (∀ D' e ml k, (lkM (lk B (wT B T) v L K F n) B (wT B T) q a ms m (10 - m)).1 = some (e, ml, k) → OKP B T K F L v D D' t e ml k (lkM (lk B (wT B T) v L K F n) B (wT B T) q a ms m (10 - m)).2 → C D') → C D := by
  intro j
  induction j using Nat.strongRecOn with
  | ind j ihj =>
    intro m D t a s R2 q ms c hmj hnt hp hN hs hc hnone hok
    have hN0 := hN
    obtain ⟨h1, h2, h3, h4, ⟨root, via, h5⟩, h6⟩ := hN
    have hL4 := h1.2.1.2.2.1
    have h46 := hp.t6 hL4
    have hcm := hV.2.1
    refine hC D t h2 h46.1 h3 _ (sp_gs_mount h1.1 hV hK h1.2.1 h5 h2 (by omega) hp.1 (by omega) NW_lt hp.2.2.1 (by omega) hc (by omega)) (fun D' g => ?_)
    cases ho : fst_ (mfP B (NW B T q) q.2.length) m (cm_ B - m) with
    | none =>
      rw [ho] at g
      have g : D' = up2 (up2 D 120 t (nI (s + 1))) 121 t 0 := g
      subst g
      have hl := lkM_n hV hT (LK := lk B (wT B T) v L K F n) (a := a) (ms := ms) ho
      have hx := next_node (s' := s + 1) (m' := 0) hN0 (D1 := up2 (up2 D 120 t (nI (s + 1))) 121 t 0) (Fq.up' (Fq.up (Or.inl ⟨rfl, rfl⟩)) (Or.inr (Or.inl ⟨rfl, rfl⟩))) (by rw [up2_other (by omega), up2_other (by omega)]; exact h3) (by rw [up2_ne (by omega), up2_same]) up2_same
      exact hnone _ (by rw [hl]) (by rw [hl]; exact hx.2) hx.1
    | some k =>
      rw [ho] at g
      have g : PSH (up2 D 121 t (nI (k + 1))) D' (t + 1) (nI (mon B k)) 0 (nI (mkn (soP B T (mon B k)) (cm_ B))) (nI a) (nI a) (nI k) 0 (s0_ K F (mon B k) L.length a) := g
      have hms := mf_some hV ho
      obtain ⟨hk1, hk2, hk3, hk4⟩ := fst_some ho
      have hMN : MNf B q k = true := by
        rw [mf_MN hV hT hms.1] at hk3
        simp only [Bool.and_eq_true] at hk3
        exact hk3.1
      obtain ⟨_, _, hro, u, hu1, hu2, hu3, hu4⟩ := MNf_use hV hMN
      have hch := child_m (k := k) hp hL4 hnt (by omega) hms.2.2
      obtain ⟨hp2, n', hn', hnt2⟩ := hch
      have hl := lkM_k hV hT (LK := lk B (wT B T) v L K F n) (a := a) (ms := ms) ho
      have hlk : lk B (wT B T) v L K F n (mon B k, []) a (ms ++ [(k, a)]) = addc 1 (lkB B (wT B T) v L K F n' (mon B k, []) a (ms ++ [(k, a)])) := by rw [hn']; exact lk_s
      have hx := next_node (s' := s) (m' := k + 1) hN0 (D1 := up2 D 121 t (nI (k + 1))) (Fq.up (Or.inr (Or.inl ⟨rfl, rfl⟩))) ((up2_other (by omega)).trans h3) ((up2_other (by omega)).trans h5.2.2.2.2.2.1) up2_same
      have hnode := push_node (q' := (mon B k, [])) (a' := a) (ms' := ms ++ [(k, a)]) (c' := false) hV hp hx.1 (by omega) (by rw [so_NW hV] at g; exact g) ⟨a, rfl⟩ (Or.inr ⟨k, rfl, by omega, rfl, rfl⟩)
      refine hI n' hn' (mon B k, []) a (ms ++ [(k, a)]) (t + 1) D' false q.1 hnt2 hp2 hnode (fun D2 r1 f => ?_) (fun D2 e ml kk r1 f => ?_)
      · have hb := back_node hx.1 g.2.2.2.2.2.2.2.2.2.2.2 g.2.1 f
        have hmid := hx.2.tr hb.2
        rw [Nat.zero_add] at hmid
        have hnd : NODE B T K F L v D2 t q a ms s (k + 1) c R2 := hb.1
        have hlk1 : (lk B (wT B T) v L K F n (mon B k, []) a (ms ++ [(k, a)])).1 = none := by rw [hlk]; exact r1
        have hlk2 : (lk B (wT B T) v L K F n (mon B k, []) a (ms ++ [(k, a)])).2 = 1 + (lkB B (wT B T) v L K F n' (mon B k, []) a (ms ++ [(k, a)])).2 := by rw [hlk]; rfl
        rw [hlk1, if_neg (by decide), hlk2] at hl
        refine ihj (j - (k + 1 - m)) (by omega) (k + 1) D2 t a s R2 q ms c (by omega) hnt hp hnd hs hc (fun D3 w1 w2 w3 => ?_) (fun D3 e ml kk w1 w2 => ?_)
        · exact hnone D3 (by rw [hl]; exact w1) (by rw [hl]; exact hmid.tr w2) w3
        · exact hok D3 e ml kk (by rw [hl]; exact w1) (by rw [hl]; exact hmid.ok w2)
      · have hu := ok_up g.2.2.2.2.2.2.2.2.2.2.2 g.2.1 f
        have hu2 := hx.2.ok hu
        rw [Nat.zero_add] at hu2
        have hlk1 : (lk B (wT B T) v L K F n (mon B k, []) a (ms ++ [(k, a)])).1 = some (e, ml, kk) := by rw [hlk]; exact r1
        have hlk2 : (lk B (wT B T) v L K F n (mon B k, []) a (ms ++ [(k, a)])).2 = 1 + (lkB B (wT B T) v L K F n' (mon B k, []) a (ms ++ [(k, a)])).2 := by rw [hlk]; rfl
        rw [hlk1, if_pos (by rfl)] at hl
        exact hok D2 e ml kk (by rw [hl]; exact hlk1) (by rw [hl, hlk2]; exact hu2)
/-- a stage by a letter -/
theorem s_letter (hV : VB B) (hK : ∀ i, i < 3 → K i ≤ 5 ∧ F i ≤ 9) (hT : TLE B T) (hC : STEPC C) {n : Nat} (hI : ∀ n', n = n' + 1 → MAINP B T K F L v C n') {D D' : Mem} {t a s R2 e ch root : Nat} {q : Nd} {ms : List (Nat × Nat)} {c : Bool} {r : List Nat} (hnt : n + t = 6) (hp : POS L t q a ms) (hN : NODE B T K F L v D t q a ms s 0 c R2) (hroot : D 119 t = nI root) (hs : s < 7) (hch : ¬ ch = 69 ∧ ¬ ch = 82 ∧ ¬ ch = 77) (he : a < L.length → edg ch (L.getD a 0) = some e ∧ e < 7)
    (g : GBR B K F L (up2 D 120 t (nI (s + 1))) D' t q.1 q.2.length (NW B T q) a root e)
    (hnext : ∀ D2, NODE B T K F L v D2 t q a ms (s + 1) 0 c R2 → ∀ n0, MID t D D2 n0 → (lkS (lk B (wT B T) v L K F n) B (wT B T) v L (stk K q.1) q a ms (ch :: r) = addc n0 (lkS (lk B (wT B T) v L K F n) B (wT B T) v L (stk K q.1) q a ms r)) → C D2)
    (hf : ∀ D2, (lkS (lk B (wT B T) v L K F n) B (wT B T) v L (stk K q.1) q a ms (ch :: r)).1 = none → FAILP B T K F L v D D2 t c R2 (lkS (lk B (wT B T) v L K F n) B (wT B T) v L (stk K q.1) q a ms (ch :: r)).2 → C D2)
    (hok : ∀ D2 e ml k, (lkS (lk B (wT B T) v L K F n) B (wT B T) v L (stk K q.1) q a ms (ch :: r)).1 = some (e, ml, k) → OKP B T K F L v D D2 t e ml k (lkS (lk B (wT B T) v L K F n) B (wT B T) v L (stk K q.1) q a ms (ch :: r)).2 → C D2) : C D' := by
  have hL4 := hN.1.2.1.2.2.1
  have h46 := hp.t6 hL4
  have h3 := hN.2.2.1
  have hx := next_node (s' := s + 1) (m' := 0) hN (D1 := up2 D 120 t (nI (s + 1))) (Fq.up (Or.inl ⟨rfl, rfl⟩)) ((up2_other (by omega)).trans h3) up2_same (by
    obtain ⟨_, _, _, _, ⟨root, via, h5⟩, _⟩ := hN
    exact (up2_other (by omega)).trans h5.2.2.2.2.2.2.1)
  have hskip : nxq B (wT B T) L ch a q = none → lkS (lk B (wT B T) v L K F n) B (wT B T) v L (stk K q.1) q a ms (ch :: r) = addc 0 (lkS (lk B (wT B T) v L K F n) B (wT B T) v L (stk K q.1) q a ms r) := by
    intro hno
    rw [lkS, hno]
    show (if ch = 77 then _ else _) = _
    rw [if_neg hch.2.2, eb_no hch.2.1 (fun w => hch.1 w.1)]
    show lkS _ _ _ _ _ _ _ _ _ r = (_, 0 + _)
    rw [Nat.zero_add]
  unfold GBR at g
  by_cases hcnd : a < L.length ∧ ¬ mkn (sbP B (NW B T q) q.2.length e) (cm_ B) = 0
  · rw [if_pos hcnd] at g
    obtain ⟨he1, he2⟩ := he hcnd.1
    rw [sb_NW hV he2] at g hcnd
    have hnx : nxq B (wT B T) L ch a q = some (q.1, q.2 ++ [e]) := by rw [nxq_e hV hT hcnd.1 he1, if_neg hcnd.2]
    obtain ⟨hp2, n', hn', hnt2⟩ := child_l (e := e) hp hL4 hnt hcnd.1
    have hlk : lk B (wT B T) v L K F n (q.1, q.2 ++ [e]) (a + 1) ms = addc 1 (lkB B (wT B T) v L K F n' (q.1, q.2 ++ [e]) (a + 1) ms) := by rw [hn']; exact lk_s
    have hnode := push_node (q' := (q.1, q.2 ++ [e])) (a' := a + 1) (ms' := ms) (c' := true) hV hp hx.1 (by omega) (by
      rw [show (q.1, q.2 ++ [e]).2.length = q.2.length + 1 from by rw [List.length_append]; rfl]
      exact g) ⟨root, rfl⟩ (Or.inl ⟨rfl, by rw [up2_ne (by omega)]; exact hroot.symm, rfl⟩)
    have hl : lkS (lk B (wT B T) v L K F n) B (wT B T) v L (stk K q.1) q a ms (ch :: r) = (if (lk B (wT B T) v L K F n (q.1, q.2 ++ [e]) (a + 1) ms).1.isSome = true then lk B (wT B T) v L K F n (q.1, q.2 ++ [e]) (a + 1) ms else if stk K q.1 = true then (none, (lk B (wT B T) v L K F n (q.1, q.2 ++ [e]) (a + 1) ms).2) else addc (lk B (wT B T) v L K F n (q.1, q.2 ++ [e]) (a + 1) ms).2 (lkS (lk B (wT B T) v L K F n) B (wT B T) v L (stk K q.1) q a ms r)) := by
      rw [lkS, hnx]
    have hlk2 : (lk B (wT B T) v L K F n (q.1, q.2 ++ [e]) (a + 1) ms).2 = 1 + (lkB B (wT B T) v L K F n' (q.1, q.2 ++ [e]) (a + 1) ms).2 := by rw [hlk]; rfl
    refine hI n' hn' (q.1, q.2 ++ [e]) (a + 1) ms (t + 1) D' true q.1 hnt2 hp2 hnode (fun D2 r1 f => ?_) (fun D2 e' ml kk r1 f => ?_)
    · have hlk1 : (lk B (wT B T) v L K F n (q.1, q.2 ++ [e]) (a + 1) ms).1 = none := by rw [hlk]; exact r1
      have hb := back_node hx.1 g.2.2.2.2.2.2.2.2.2.2.2 g.2.1 f
      have hmid := hx.2.tr hb.2
      rw [Nat.zero_add, ← hlk2] at hmid
      rw [hlk1, if_neg (by decide)] at hl
      by_cases hst : stk K q.1 = true
      · rw [if_pos hst] at hl
        have hnd := hb.1
        rw [if_pos (show (true && stk K q.1) = true by rw [hst]; rfl)] at hnd
        refine s_over hV hK hC hp hnd (by omega) (cod_7 _ (by have := (hK q.1 hp.1).1; omega)) (fun D3 f3 => ?_)
        exact hf D3 (by rw [hl]) (by rw [hl]; exact hmid.fail f3)
      · rw [if_neg hst] at hl
        have hnd := hb.1
        rw [if_neg (show ¬ (true && stk K q.1) = true by rw [Bool.true_and]; exact hst)] at hnd
        exact hnext D2 hnd _ hmid hl
    · have hlk1 : (lk B (wT B T) v L K F n (q.1, q.2 ++ [e]) (a + 1) ms).1 = some (e', ml, kk) := by rw [hlk]; exact r1
      have hu2 := hx.2.ok (ok_up g.2.2.2.2.2.2.2.2.2.2.2 g.2.1 f)
      rw [Nat.zero_add, ← hlk2] at hu2
      rw [hlk1, if_pos (by rfl)] at hl
      exact hok D2 e' ml kk (by rw [hl]; exact hlk1) (by rw [hl]; exact hu2)
  · rw [if_neg hcnd] at g
    subst g
    refine hnext _ hx.1 0 hx.2 (hskip ?_)
    by_cases ha : a < L.length
    · obtain ⟨he1, he2⟩ := he ha
      rw [nxq_e hV hT ha he1, if_pos]
      rw [← sb_NW hV he2]
      exact Decidable.not_not.mp (fun w => hcnd ⟨ha, w⟩)
    · exact nxq_n (Or.inr (by omega))
/-- the stages of a node from one on -/
theorem s_stages (hV : VB B) (hK : ∀ i, i < 3 → K i ≤ 5 ∧ F i ≤ 9) (hT : TLE B T) (hC : STEPC C) (hv : v < 4) {n : Nat} (hI : ∀ n', n = n' + 1 → MAINP B T K F L v C n') : ∀ (j s : Nat) (D : Mem) (t a R2 : Nat) (q : Nd) (ms : List (Nat × Nat)) (c : Bool), s + j = (ordS (oi (K q.1))).length → n + t = 6 → POS L t q a ms → NODE B T K F L v D t q a ms s 0 c R2 →
    (∀ D', (lkS (lk B (wT B T) v L K F n) B (wT B T) v L (stk K q.1) q a ms ((ordS (oi (K q.1))).drop s)).1 = none → FAILP B T K F L v D D' t c R2 (lkS (lk B (wT B T) v L K F n) B (wT B T) v L (stk K q.1) q a ms ((ordS (oi (K q.1))).drop s)).2 → C D') →
    (∀ D' e ml k, (lkS (lk B (wT B T) v L K F n) B (wT B T) v L (stk K q.1) q a ms ((ordS (oi (K q.1))).drop s)).1 = some (e, ml, k) → OKP B T K F L v D D' t e ml k (lkS (lk B (wT B T) v L K F n) B (wT B T) v L (stk K q.1) q a ms ((ordS (oi (K q.1))).drop s)).2 → C D') → C D := by
  intro j
  induction j with
  | zero =>
    intro s D t a R2 q ms c hsj hnt hp hN hf hok
    have hk6 : K q.1 < 6 := by have := (hK q.1 hp.1).1; omega
    have hlen := ordS_n (oi (K q.1)) (oi_lt _)
    have hd : (ordS (oi (K q.1))).drop s = [] := List.drop_eq_nil_of_le (by omega)
    rw [hd] at hf
    exact s_over hV hK hC hp hN (by omega) ((cod_at _ hk6 s (by omega)).2 (by omega)) (fun D' f => hf D' rfl f)
  | succ j ih =>
    intro s D t a R2 q ms c hsj hnt hp hN hf hok
    have hk6 : K q.1 < 6 := by have := (hK q.1 hp.1).1; omega
    have hlen := ordS_n (oi (K q.1)) (oi_lt _)
    have hsl : s < (ordS (oi (K q.1))).length := by omega
    obtain ⟨hch, hd⟩ := ordS_s (oi (K q.1)) (oi_lt _) s hsl
    have hcod := (cod_at _ hk6 s (by omega)).1 hsl
    have hih := ih (s + 1)
    rw [hd] at hf hok
    generalize hr : (ordS (oi (K q.1))).drop (s + 1) = r at hf hok
    generalize hg : (ordS (oi (K q.1))).getD s 0 = ch at hch hcod hf hok
    have hN0 := hN
    obtain ⟨h1, h2, h3, h4, ⟨root, via, h5⟩, h6⟩ := hN
    have h46 := hp.t6 h1.2.1.2.2.1
    -- going on with the rest
    have hgo : ∀ D2 n0, NODE B T K F L v D2 t q a ms (s + 1) 0 c R2 → MID t D D2 n0 → (lkS (lk B (wT B T) v L K F n) B (wT B T) v L (stk K q.1) q a ms (ch :: r) = addc n0 (lkS (lk B (wT B T) v L K F n) B (wT B T) v L (stk K q.1) q a ms r)) → C D2 := by
      intro D2 n0 hnd hmid hl
      refine hih D2 t a R2 q ms c (by omega) hnt hp hnd (fun D3 w1 w2 => ?_) (fun D3 e ml k w1 w2 => ?_)
      · rw [hr] at w1 w2
        exact hf D3 (by rw [hl]; exact w1) (by rw [hl]; exact hmid.fail w2)
      · rw [hr] at w1 w2
        exact hok D3 e ml k (by rw [hl]; exact w1) (by rw [hl]; exact hmid.ok w2)
    have hskip : ∀ s', s' = ch → nxq B (wT B T) L s' a q = none → ¬ s' = 77 → ebF (RSf B) (ENf B) (SVf B) q (wT B T) v L s' a = none → lkS (lk B (wT B T) v L K F n) B (wT B T) v L (stk K q.1) q a ms (ch :: r) = addc 0 (lkS (lk B (wT B T) v L K F n) B (wT B T) v L (stk K q.1) q a ms r) := by
      intro s' e1 e2 e3 e4
      subst e1
      rw [lkS, e2]
      show (if s' = 77 then _ else _) = _
      rw [if_neg e3, e4]
      show lkS _ _ _ _ _ _ _ _ _ r = (_, 0 + _)
      rw [Nat.zero_add]
    have hfound : ∀ s' e, s' = ch → nxq B (wT B T) L s' a q = none → ¬ s' = 77 → ebF (RSf B) (ENf B) (SVf B) q (wT B T) v L s' a = some e → lkS (lk B (wT B T) v L K F n) B (wT B T) v L (stk K q.1) q a ms (ch :: r) = (some (e, ms, L.length - a), 0) := by
      intro s' e e1 e2 e3 e4
      subst e1
      rw [lkS, e2]
      show (if s' = 77 then _ else _) = _
      rw [if_neg e3, e4]
    have hend : ∀ (s' : Nat) (D2 : Mem), s' = ch → nxq B (wT B T) L s' a q = none → ¬ s' = 77 → D2 = up2 (up2 D 120 t (nI (s + 1))) 104 23 (opI (ebF (RSf B) (ENf B) (SVf B) q (wT B T) v L s' a)) → C D2 := by
      intro s' D2 e1 e2 e3 e4
      have hq : Fq (fun b i => (b = 120 ∧ i = t) ∨ (b = 121 ∧ i = t) ∨ (b = 104 ∧ i = 23)) D D2 := by
        rw [e4]; exact Fq.up' (Fq.up (Or.inl ⟨rfl, rfl⟩)) (Or.inr (Or.inr ⟨rfl, rfl⟩))
      cases ho : ebF (RSf B) (ENf B) (SVf B) q (wT B T) v L s' a with
      | none =>
        rw [ho] at e4
        have hx := next_node (s' := s + 1) (m' := 0) hN0 hq (by rw [e4]; exact up2_same) (by rw [e4, up2_ne (by omega), up2_same]) (by rw [e4, up2_ne (by omega), up2_ne (by omega)]; exact h5.2.2.2.2.2.2.1)
        exact hgo D2 0 hx.1 hx.2 (hskip s' e1 e2 e3 ho)
      | some e =>
        rw [ho] at e4
        have hx := found_node (e := e) hp h46.1 (eb_lt ho) hN0 hq (by rw [e4]; exact up2_same)
        have hl := hfound s' e e1 e2 e3 ho
        exact hok D2 e ms (L.length - a) (by rw [hl]) (by rw [hl]; exact hx)
    rcases hch with e | e | e | e | e | e
    · -- E
      subst e
      rw [if_pos rfl] at hcod
      refine hC D t h2 h46.1 h3 _ (sp_gs_end h1.1 hV hK h1.2.1 h5 h2 (by omega) hp.1 (by omega) NW_lt hp.2.2.1 (by omega) hcod h1.2.2 hv) (fun D' g => ?_)
      have hnx : nxq B (wT B T) L 69 a q = none := nxq_n (Or.inl (by unfold edg; simp))
      unfold GER at g
      by_cases ha : a = L.length
      · rw [if_pos ha, le_eb hV hT ha] at g
        exact hend 69 D' rfl hnx (by decide) g
      · rw [if_neg ha] at g
        have hx := next_node (s' := s + 1) (m' := 0) hN0 (D1 := D') (by rw [g]; exact Fq.up (Or.inl ⟨rfl, rfl⟩)) (by rw [g, up2_other (by omega)]; exact h3) (by rw [g, up2_same]) (by rw [g, up2_ne (by omega)]; exact h5.2.2.2.2.2.2.1)
        exact hgo D' 0 hx.1 hx.2 (hskip 69 rfl hnx (by decide) (eb_no (by decide) (fun w => ha w.2)))
    · -- L
      subst e
      rw [if_neg (by decide), if_pos rfl] at hcod
      refine hC D t h2 h46.1 h3 _ (sp_gs_by1 h1.1 hV hK h1.2.1 h5 h2 (by omega) hp.1 (by omega) NW_lt hp.2.2.1 (by omega) hcod) (fun D' g => ?_)
      exact s_letter hV hK hT hC hI hnt hp hN0 h5.2.2.2.2.1 (by omega) (by decide) (fun ha => ⟨by unfold edg; rw [if_pos rfl], by have := h1.2.1.2.2.2 _ (getD_in ha); omega⟩) g (fun D2 a1 n0 a2 a3 => hgo D2 n0 a1 a2 a3) hf hok
    · -- A
      subst e
      rw [if_neg (by decide), if_neg (by decide), if_neg (by decide), if_pos rfl] at hcod
      refine hC D t h2 h46.1 h3 _ (sp_gs_by3 h1.1 hV hK h1.2.1 h5 h2 (by omega) hp.1 (by omega) NW_lt hp.2.2.1 (by omega) hcod) (fun D' g => ?_)
      exact s_letter hV hK hT hC hI hnt hp hN0 h5.2.2.2.2.1 (by omega) (by decide) (fun ha => ⟨by unfold edg; rw [if_neg (by decide), if_neg (by decide), if_pos rfl], by omega⟩) g (fun D2 a1 n0 a2 a3 => hgo D2 n0 a1 a2 a3) hf hok
    · -- C
      subst e
      rw [if_neg (by decide), if_neg (by decide), if_pos rfl] at hcod
      refine hC D t h2 h46.1 h3 _ (sp_gs_by2 h1.1 hV hK h1.2.1 h5 h2 (by omega) hp.1 (by omega) NW_lt hp.2.2.1 (by omega) hcod) (fun D' g => ?_)
      exact s_letter hV hK hT hC hI hnt hp hN0 h5.2.2.2.2.1 (by omega) (by decide) (fun ha => ⟨by unfold edg; rw [if_neg (by decide), if_pos rfl], by split <;> omega⟩) g (fun D2 a1 n0 a2 a3 => hgo D2 n0 a1 a2 a3) hf hok
    · -- R
      subst e
      rw [if_neg (by decide), if_neg (by decide), if_neg (by decide), if_neg (by decide), if_pos rfl] at hcod
      refine hC D t h2 h46.1 h3 _ (sp_gs_rest h1.1 hV hK h1.2.1 h5 h2 (by omega) hp.1 (by omega) NW_lt hp.2.2.1 (by omega) hcod h1.2.2 hv) (fun D' g => ?_)
      have hnx : nxq B (wT B T) L 82 a q = none := nxq_n (Or.inl (by unfold edg; simp))
      rw [lr_eb (a := a) (L := L) hV hT] at g
      exact hend 82 D' rfl hnx (by decide) g
    · -- M
      subst e
      rw [if_neg (by decide), if_neg (by decide), if_neg (by decide), if_neg (by decide), if_neg (by decide)] at hcod
      have hnx : nxq B (wT B T) L 77 a q = none := nxq_n (Or.inl (by unfold edg; simp))
      have hl : lkS (lk B (wT B T) v L K F n) B (wT B T) v L (stk K q.1) q a ms (77 :: r) = (if (lkM (lk B (wT B T) v L K F n) B (wT B T) q a ms 0 10).1.isSome = true then lkM (lk B (wT B T) v L K F n) B (wT B T) q a ms 0 10 else addc (lkM (lk B (wT B T) v L K F n) B (wT B T) q a ms 0 10).2 (lkS (lk B (wT B T) v L K F n) B (wT B T) v L (stk K q.1) q a ms r)) := by
        rw [lkS, hnx]
        show (if 77 = 77 then _ else _) = _
        rw [if_pos rfl]
      refine s_mount hV hK hT hC hI (cm_ B) 0 D t a s R2 q ms c (Nat.zero_add _) hnt hp hN0 (by omega) hcod (fun D2 w1 w2 w3 => ?_) (fun D2 e ml k w1 w2 => ?_)
      · have w1 : (lkM (lk B (wT B T) v L K F n) B (wT B T) q a ms 0 10).1 = none := w1
        rw [w1, if_neg (by decide)] at hl
        exact hgo D2 _ w3 w2 hl
      · have w1 : (lkM (lk B (wT B T) v L K F n) B (wT B T) q a ms 0 10).1 = some (e, ml, k) := w1
        rw [w1, if_pos (by rfl)] at hl
        exact hok D2 e ml k (by rw [hl]; exact w1) (by rw [hl]; exact w2)
theorem s_main (hV : VB B) (hK : ∀ i, i < 3 → K i ≤ 5 ∧ F i ≤ 9) (hT : TLE B T) (hC : STEPC C) (hv : v < 4) : ∀ n, MAINP B T K F L v C n := by
  intro n
  induction n with
  | zero =>
    intro q a ms t D c R2 hnt hp hN hf hok
    have hk6 : K q.1 < 6 := by have := (hK q.1 hp.1).1; omega
    unfold lkB at hf hok
    unfold s0_ at hN
    by_cases h5 : K q.1 = 5 ∧ F q.1 < L.length - a
    · rw [if_pos h5] at hf hN
      exact s_over hV hK hC hp hN (by omega) (cod_7 _ hk6) (fun D' f => hf D' rfl f)
    · rw [if_neg h5] at hf hok hN
      exact s_stages hV hK hT hC hv (n := 0) (fun n' hn' => absurd hn' (by omega)) _ 0 D t a R2 q ms c (Nat.zero_add _) hnt hp hN (fun D' => hf D') (fun D' => hok D')
  | succ n ih =>
    intro q a ms t D c R2 hnt hp hN hf hok
    have hk6 : K q.1 < 6 := by have := (hK q.1 hp.1).1; omega
    unfold lkB at hf hok
    unfold s0_ at hN
    by_cases h5 : K q.1 = 5 ∧ F q.1 < L.length - a
    · rw [if_pos h5] at hf hN
      exact s_over hV hK hC hp hN (by omega) (cod_7 _ hk6) (fun D' f => hf D' rfl f)
    · rw [if_neg h5] at hf hok hN
      exact s_stages hV hK hT hC hv (n := n + 1) (fun n' hn' => by obtain rfl : n' = n := (by omega); exact ih) _ 0 D t a R2 q ms c (Nat.zero_add _) hnt hp hN (fun D' => hf D') (fun D' => hok D')
end SIM2
