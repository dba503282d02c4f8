/-! A ROUTE IS PLANTED -/
theorem ng_app {nl : List Nd} {q : Nd} {j : Nat} (h : j < nl.length) : ng (nl ++ [q]) j = ng nl j := by
  unfold ng
  rw [List.getD_eq_getElem?_getD, List.getD_eq_getElem?_getD, List.getElem?_append_left h]
theorem ng_last {nl : List Nd} {q : Nd} : ng (nl ++ [q]) nl.length = q := by
  unfold ng
  rw [List.getD_eq_getElem?_getD, List.getElem?_append_right (Nat.le_refl _)]
  simp
theorem nix_app {nl : List Nd} {q x : Nd} (h : nix nl q = none) : nix (nl ++ [q]) x = if x = q then some nl.length else nix nl x := by
  by_cases hx : x = q
  · rw [if_pos hx]
    subst hx
    refine fst_intro (Nat.zero_le _) (by simp) (decide_eq_true ng_last) (fun k _ hk => decide_eq_false ?_)
    rw [ng_app hk]
    exact nix_none h hk
  · rw [if_neg hx]
    cases hn : nix nl x with
    | none =>
      refine fst_intro_none (fun k _ hk => decide_eq_false ?_)
      simp at hk
      by_cases hk2 : k < nl.length
      · rw [ng_app hk2]; exact nix_none hn hk2
      · have : k = nl.length := by omega
        subst this
        rw [ng_last]; exact fun e => hx e.symm
    | some m =>
      obtain ⟨h1, h2⟩ := nix_some hn
      obtain ⟨_, _, _, g4⟩ := fst_some hn
      refine fst_intro (Nat.zero_le _) (by simp; omega) (decide_eq_true (by rw [ng_app h1]; exact h2)) (fun k _ hk => decide_eq_false ?_)
      rw [ng_app (by omega)]
      exact of_decide_eq_false (g4 k (Nat.zero_le _) hk)
theorem NL.app {nl : List Nd} {j : Nat} {e : Nat} (hn : NL nl) (hj : j < nl.length) (hl : nl.length < 43) (h : nix nl ((ng nl j).1, (ng nl j).2 ++ [e]) = none) : NL (nl ++ [((ng nl j).1, (ng nl j).2 ++ [e])]) := by
  obtain ⟨h1, h2, h3, h4, h5⟩ := hn
  refine ⟨by simp; omega, by simp; omega, fun i hi => by rw [ng_app (by omega)]; exact h3 i hi, fun a b ha hb hab => ?_, fun k hk p e' hp => ?_⟩
  · simp at ha hb
    by_cases ha2 : a < nl.length
    · by_cases hb2 : b < nl.length
      · rw [ng_app ha2, ng_app hb2] at hab; exact h4 a b ha2 hb2 hab
      · have : b = nl.length := by omega
        subst this
        rw [ng_app ha2, ng_last] at hab
        exact absurd hab (nix_none h ha2)
    · have ea : a = nl.length := by omega
      subst ea
      by_cases hb2 : b < nl.length
      · rw [ng_app hb2, ng_last] at hab
        exact absurd hab.symm (nix_none h hb2)
      · omega
  · simp at hk
    by_cases hk2 : k < nl.length
    · rw [ng_app hk2] at hp ⊢
      obtain ⟨x, hx, hx2⟩ := h5 k hk2 p e' hp
      exact ⟨x, by simp; omega, by rw [ng_app hx]; exact hx2⟩
    · have : k = nl.length := by omega
      subst this
      rw [ng_last] at hp ⊢
      have hpp : p = (ng nl j).2 := (List.append_inj' hp rfl).1.symm
      exact ⟨j, by simp; omega, by rw [ng_app hj, hpp]⟩
/-- a node more -/
theorem TE.add {D : Mem} {B : Bk} {nl : List Nd} {PS EN RS MN : Nd → Nat → Bool} {SV : Nat → Nat → Bool} {MO : Nat → Bool} {j e : Nat} (h : TE D B nl PS EN RS MN SV MO) (hj : j < nl.length) (he : e < 7) (hl : nl.length < 43) (hx : nix nl ((ng nl j).1, (ng nl j).2 ++ [e]) = none) :
    TE (up2 (anD D nl.length (ng nl j).1) 81 (j * 7 + e) (nI nl.length)) B (nl ++ [((ng nl j).1, (ng nl j).2 ++ [e])]) PS EN RS MN SV MO := by
  obtain ⟨h1, h2, h3, h4, h5, h6⟩ := h
  have hlen : (nl ++ [((ng nl j).1, (ng nl j).2 ++ [e])]).length = nl.length + 1 := by simp
  have o : ∀ b x, ¬ (b = 80 ∧ x = 11) → ¬ (b = 82 ∧ x = nl.length) → ¬ ((83 ≤ b ∧ b ≤ 86) ∧ x = nl.length) → ¬ (b = 81 ∧ nl.length * 7 ≤ x ∧ x < nl.length * 7 + 7) → ¬ (b = 81 ∧ x = j * 7 + e) → up2 (anD D nl.length (ng nl j).1) 81 (j * 7 + e) (nI nl.length) b x = D b x := by
    intro b x g1 g2 g3 g4 g5
    rw [up2_other g5]
    unfold anD
    rw [if_neg g1, if_neg g2, if_neg g3, if_neg g4]
  refine ⟨?_, h2.app hj hl hx, fun i hi => ?_, fun v hv => by rw [o 88 v (by omega) (by omega) (by omega) (by omega) (by omega)]; exact h4 v hv, fun r hr hm => by rw [o 87 r (by omega) (by omega) (by omega) (by omega) (by omega)]; exact h5 r hr hm, fun q hq r hr => ?_⟩
  · rw [hlen, up2_other (by omega)]
    unfold anD
    rw [if_pos ⟨rfl, rfl⟩]
  · rw [hlen] at hi
    by_cases hi2 : i < nl.length
    · obtain ⟨g1, g2, g3, g4, g5, g6⟩ := h3 i hi2
      unfold NOD
      rw [ng_app hi2]
      refine ⟨by rw [o 82 i (by omega) (by omega) (by omega) (by omega) (by omega)]; exact g1, by rw [o 83 i (by omega) (by omega) (by omega) (by omega) (by omega)]; exact g2, by rw [o 84 i (by omega) (by omega) (by omega) (by omega) (by omega)]; exact g3, by rw [o 85 i (by omega) (by omega) (by omega) (by omega) (by omega)]; exact g4, by rw [o 86 i (by omega) (by omega) (by omega) (by omega) (by omega)]; exact g5, fun e' he' => ?_⟩
      rw [nix_app hx]
      by_cases hq : ((ng nl i).1, (ng nl i).2 ++ [e']) = ((ng nl j).1, (ng nl j).2 ++ [e])
      · rw [if_pos hq]
        have q1 := congrArg Prod.fst hq
        have q2 := List.append_inj' (congrArg Prod.snd hq) rfl
        have q3 : e' = e := by have := q2.2; simpa using this
        have q4 : i = j := h2.2.2.2.1 i j hi2 hj (Prod.ext q1 q2.1)
        subst q3; subst q4
        exact up2_same
      · rw [if_neg hq]
        have hne : ¬ (i = j ∧ e' = e) := fun q => hq (by rw [q.1, q.2])
        rw [o 81 (i * 7 + e') (by omega) (by omega) (by omega) (by omega) (by omega)]
        exact g6 e' he'
    · have : i = nl.length := by omega
      subst this
      unfold NOD
      rw [ng_last]
      have hz := h6 ((ng nl j).1, (ng nl j).2 ++ [e]) (fun k hk => nix_none hx hk)
      have a1 : ∀ b, 83 ≤ b → b ≤ 86 → up2 (anD D nl.length (ng nl j).1) 81 (j * 7 + e) (nI nl.length) b nl.length = 0 := by
        intro b g1 g2
        rw [up2_other (by omega)]
        unfold anD
        rw [if_neg (by omega), if_neg (by omega), if_pos ⟨⟨g1, g2⟩, rfl⟩]
      have z : ∀ F : Nat → Bool, (∀ r, r < 10 → F r = false) → nI (mkn F 10) = 0 := fun F hF => by rw [mkn_0.mpr hF]; rfl
      refine ⟨?_, ?_, ?_, ?_, ?_, fun e' he' => ?_⟩
      · rw [up2_other (by omega)]
        unfold anD
        rw [if_neg (by omega), if_pos ⟨rfl, rfl⟩]
      · rw [a1 83 (by omega) (by omega), z _ (fun r hr => (hz r hr).1)]
      · rw [a1 84 (by omega) (by omega), z _ (fun r hr => (hz r hr).2.1)]
      · rw [a1 85 (by omega) (by omega), z _ (fun r hr => (hz r hr).2.2.1)]
      · rw [a1 86 (by omega) (by omega), z _ (fun r hr => (hz r hr).2.2.2)]
      · rw [up2_other (by omega), nix_app hx, if_neg (fun q => by
          have := congrArg (fun z : Nd => z.2.length) q
          simp at this)]
        have hno : nix nl ((ng nl j).1, ((ng nl j).2 ++ [e]) ++ [e']) = none := by
          cases hc : nix nl ((ng nl j).1, ((ng nl j).2 ++ [e]) ++ [e']) with
          | none => rfl
          | some k =>
            obtain ⟨k1, k2⟩ := nix_some hc
            obtain ⟨x, x1, x2⟩ := h2.2.2.2.2 k k1 ((ng nl j).2 ++ [e]) e' (by rw [k2])
            rw [k2] at x2
            exact absurd x2 (nix_none hx x1)
        rw [hno]
        unfold anD
        rw [if_neg (by omega), if_neg (by omega), if_neg (by omega), if_pos ⟨rfl, by omega, by omega⟩]
        rfl
  · refine h6 q (fun k hk => ?_) r hr
    have := hq k (by rw [hlen]; omega)
    rw [ng_app hk] at this
    exact this
/-! marks -/
def uq (F : Nd → Nat → Bool) (q : Nd) (i : Nat) : Nd → Nat → Bool := fun x r => F x r || (decide (x = q) && decide (r = i))
theorem mkn_or {p : Nat → Bool} {i n : Nat} (hi : i < n) : mkn p n ||| 2 ^ i = mkn (fun r => p r || decide (r = i)) n := by
  refine tb_eq (n := n) ?_ (mkn_lt _ _) (fun k hk => ?_)
  · exact Nat.or_lt_two_pow (mkn_lt _ _) (Nat.pow_lt_pow_right (by omega) hi)
  · rw [Nat.testBit_or, mkn_tb, mkn_tb, Nat.testBit_two_pow, decide_eq_true hk, Bool.true_and, Bool.true_and]
    congr 1
    exact decide_eq_decide.mpr eq_comm
theorem uq_at {F : Nd → Nat → Bool} {q : Nd} {i : Nat} (hi : i < 10) : mkn (uq F q i q) 10 = mkn (F q) 10 ||| 2 ^ i := by
  rw [mkn_or hi]
  exact mkn_congr fun r _ => by unfold uq; rw [decide_eq_true rfl, Bool.true_and]
theorem uq_ne {F : Nd → Nat → Bool} {q x : Nd} {i : Nat} (h : x ≠ q) : uq F q i x = F x := by
  funext r
  unfold uq
  rw [decide_eq_false h]; simp
theorem TE.markPS {D : Mem} {B : Bk} {nl : List Nd} {PS EN RS MN : Nd → Nat → Bool} {SV : Nat → Nat → Bool} {MO : Nat → Bool} {j i : Nat} (h : TE D B nl PS EN RS MN SV MO) (hj : j < nl.length) (hi : i < 10) : TE (up2 D 83 j (nI (mkn (PS (ng nl j)) 10 ||| 2 ^ i))) B nl (uq PS (ng nl j) i) EN RS MN SV MO := by
  obtain ⟨h1, h2, h3, h4, h5, h6⟩ := h
  refine ⟨by rw [up2_other (by omega)]; exact h1, h2, fun x hx => ?_, fun v hv => by rw [up2_other (by omega)]; exact h4 v hv, fun r hr hm => by rw [up2_other (by omega)]; exact h5 r hr hm, fun q hq r hr => ?_⟩
  · obtain ⟨g1, g2, g3, g4, g5, g6⟩ := h3 x hx
    by_cases e : x = j
    · subst e
      exact ⟨(by rw [up2_other (by omega)]; exact g1), (by rw [uq_at hi]; exact up2_same), (by rw [up2_other (by omega)]; exact g3), (by rw [up2_other (by omega)]; exact g4), (by rw [up2_other (by omega)]; exact g5), fun e' he' => by rw [up2_other (by omega)]; exact g6 e' he'⟩
    · have hne : ng nl x ≠ ng nl j := fun q => e (h2.2.2.2.1 x j hx hj q)
      exact ⟨(by rw [up2_other (by omega)]; exact g1), (by rw [uq_ne hne, up2_other (by omega)]; exact g2), (by rw [up2_other (by omega)]; exact g3), (by rw [up2_other (by omega)]; exact g4), (by rw [up2_other (by omega)]; exact g5), fun e' he' => by rw [up2_other (by omega)]; exact g6 e' he'⟩
  · have z := h6 q hq r hr
    exact ⟨by unfold uq; rw [decide_eq_false (Ne.symm (hq j hj)), z.1]; simp, z.2.1, z.2.2.1, z.2.2.2⟩
theorem TE.markEN {D : Mem} {B : Bk} {nl : List Nd} {PS EN RS MN : Nd → Nat → Bool} {SV : Nat → Nat → Bool} {MO : Nat → Bool} {j i : Nat} (h : TE D B nl PS EN RS MN SV MO) (hj : j < nl.length) (hi : i < 10) : TE (up2 D 84 j (nI (mkn (EN (ng nl j)) 10 ||| 2 ^ i))) B nl PS (uq EN (ng nl j) i) RS MN SV MO := by
  obtain ⟨h1, h2, h3, h4, h5, h6⟩ := h
  refine ⟨by rw [up2_other (by omega)]; exact h1, h2, fun x hx => ?_, fun v hv => by rw [up2_other (by omega)]; exact h4 v hv, fun r hr hm => by rw [up2_other (by omega)]; exact h5 r hr hm, fun q hq r hr => ?_⟩
  · obtain ⟨g1, g2, g3, g4, g5, g6⟩ := h3 x hx
    by_cases e : x = j
    · subst e
      exact ⟨(by rw [up2_other (by omega)]; exact g1), (by rw [up2_other (by omega)]; exact g2), (by rw [uq_at hi]; exact up2_same), (by rw [up2_other (by omega)]; exact g4), (by rw [up2_other (by omega)]; exact g5), fun e' he' => by rw [up2_other (by omega)]; exact g6 e' he'⟩
    · have hne : ng nl x ≠ ng nl j := fun q => e (h2.2.2.2.1 x j hx hj q)
      exact ⟨(by rw [up2_other (by omega)]; exact g1), (by rw [up2_other (by omega)]; exact g2), (by rw [uq_ne hne, up2_other (by omega)]; exact g3), (by rw [up2_other (by omega)]; exact g4), (by rw [up2_other (by omega)]; exact g5), fun e' he' => by rw [up2_other (by omega)]; exact g6 e' he'⟩
  · have z := h6 q hq r hr
    exact ⟨z.1, by unfold uq; rw [decide_eq_false (Ne.symm (hq j hj)), z.2.1]; simp, z.2.2.1, z.2.2.2⟩
theorem TE.markRS {D : Mem} {B : Bk} {nl : List Nd} {PS EN RS MN : Nd → Nat → Bool} {SV : Nat → Nat → Bool} {MO : Nat → Bool} {j i : Nat} (h : TE D B nl PS EN RS MN SV MO) (hj : j < nl.length) (hi : i < 10) : TE (up2 D 85 j (nI (mkn (RS (ng nl j)) 10 ||| 2 ^ i))) B nl PS EN (uq RS (ng nl j) i) MN SV MO := by
  obtain ⟨h1, h2, h3, h4, h5, h6⟩ := h
  refine ⟨by rw [up2_other (by omega)]; exact h1, h2, fun x hx => ?_, fun v hv => by rw [up2_other (by omega)]; exact h4 v hv, fun r hr hm => by rw [up2_other (by omega)]; exact h5 r hr hm, fun q hq r hr => ?_⟩
  · obtain ⟨g1, g2, g3, g4, g5, g6⟩ := h3 x hx
    by_cases e : x = j
    · subst e
      exact ⟨(by rw [up2_other (by omega)]; exact g1), (by rw [up2_other (by omega)]; exact g2), (by rw [up2_other (by omega)]; exact g3), (by rw [uq_at hi]; exact up2_same), (by rw [up2_other (by omega)]; exact g5), fun e' he' => by rw [up2_other (by omega)]; exact g6 e' he'⟩
    · have hne : ng nl x ≠ ng nl j := fun q => e (h2.2.2.2.1 x j hx hj q)
      exact ⟨(by rw [up2_other (by omega)]; exact g1), (by rw [up2_other (by omega)]; exact g2), (by rw [up2_other (by omega)]; exact g3), (by rw [uq_ne hne, up2_other (by omega)]; exact g4), (by rw [up2_other (by omega)]; exact g5), fun e' he' => by rw [up2_other (by omega)]; exact g6 e' he'⟩
  · have z := h6 q hq r hr
    exact ⟨z.1, z.2.1, by unfold uq; rw [decide_eq_false (Ne.symm (hq j hj)), z.2.2.1]; simp, z.2.2.2⟩
theorem TE.markMN {D : Mem} {B : Bk} {nl : List Nd} {PS EN RS MN : Nd → Nat → Bool} {SV : Nat → Nat → Bool} {MO : Nat → Bool} {j i : Nat} (h : TE D B nl PS EN RS MN SV MO) (hj : j < nl.length) (hi : i < 10) : TE (up2 D 86 j (nI (mkn (MN (ng nl j)) 10 ||| 2 ^ i))) B nl PS EN RS (uq MN (ng nl j) i) SV MO := by
  obtain ⟨h1, h2, h3, h4, h5, h6⟩ := h
  refine ⟨by rw [up2_other (by omega)]; exact h1, h2, fun x hx => ?_, fun v hv => by rw [up2_other (by omega)]; exact h4 v hv, fun r hr hm => by rw [up2_other (by omega)]; exact h5 r hr hm, fun q hq r hr => ?_⟩
  · obtain ⟨g1, g2, g3, g4, g5, g6⟩ := h3 x hx
    by_cases e : x = j
    · subst e
      exact ⟨(by rw [up2_other (by omega)]; exact g1), (by rw [up2_other (by omega)]; exact g2), (by rw [up2_other (by omega)]; exact g3), (by rw [up2_other (by omega)]; exact g4), (by rw [uq_at hi]; exact up2_same), fun e' he' => by rw [up2_other (by omega)]; exact g6 e' he'⟩
    · have hne : ng nl x ≠ ng nl j := fun q => e (h2.2.2.2.1 x j hx hj q)
      exact ⟨(by rw [up2_other (by omega)]; exact g1), (by rw [up2_other (by omega)]; exact g2), (by rw [up2_other (by omega)]; exact g3), (by rw [up2_other (by omega)]; exact g4), (by rw [uq_ne hne, up2_other (by omega)]; exact g5), fun e' he' => by rw [up2_other (by omega)]; exact g6 e' he'⟩
  · have z := h6 q hq r hr
    exact ⟨z.1, z.2.1, z.2.2.1, by unfold uq; rw [decide_eq_false (Ne.symm (hq j hj)), z.2.2.2]; simp⟩
theorem TE.congr {D : Mem} {B : Bk} {nl : List Nd} {PS EN RS MN PS' EN' RS' MN' : Nd → Nat → Bool} {SV SV' : Nat → Nat → Bool} {MO MO' : Nat → Bool} (h : TE D B nl PS EN RS MN SV MO) (e1 : ∀ q r, r < 10 → PS' q r = PS q r) (e2 : ∀ q r, r < 10 → EN' q r = EN q r) (e3 : ∀ q r, r < 10 → RS' q r = RS q r) (e4 : ∀ q r, r < 10 → MN' q r = MN q r) (e5 : ∀ v r, r < 10 → SV' v r = SV v r) (e6 : ∀ r, r < 10 → MO' r = true → MO r = true) : TE D B nl PS' EN' RS' MN' SV' MO' := by
  obtain ⟨h1, h2, h3, h4, h5, h6⟩ := h
  refine ⟨h1, h2, fun j hj => ?_, fun v hv => by rw [mkn_congr (e5 v)]; exact h4 v hv, fun r hr hm => h5 r hr (e6 r hr hm), fun q hq r hr => ?_⟩
  · obtain ⟨g1, g2, g3, g4, g5, g6⟩ := h3 j hj
    exact ⟨g1, by rw [mkn_congr (e1 _)]; exact g2, by rw [mkn_congr (e2 _)]; exact g3, by rw [mkn_congr (e3 _)]; exact g4, by rw [mkn_congr (e4 _)]; exact g5, g6⟩
  · have z := h6 q hq r hr
    exact ⟨(e1 q r hr).trans z.1, (e2 q r hr).trans z.2.1, (e3 q r hr).trans z.2.2.1, (e4 q r hr).trans z.2.2.2⟩
theorem TE.serve {D : Mem} {B : Bk} {nl : List Nd} {PS EN RS MN : Nd → Nat → Bool} {SV : Nat → Nat → Bool} {MO : Nat → Bool} {v i : Nat} (h : TE D B nl PS EN RS MN SV MO) (hv : v < 4) (hi : i < 10) : TE (up2 D 88 v (nI (mkn (SV v) 10 ||| 2 ^ i))) B nl PS EN RS MN (fun x r => SV x r || (decide (x = v) && decide (r = i))) MO := by
  obtain ⟨h1, h2, h3, h4, h5, h6⟩ := h
  refine ⟨by rw [up2_other (by omega)]; exact h1, h2, fun x hx => ?_, fun x hx => ?_, fun r hr hm => by rw [up2_other (by omega)]; exact h5 r hr hm, h6⟩
  · obtain ⟨g1, g2, g3, g4, g5, g6⟩ := h3 x hx
    exact ⟨by rw [up2_other (by omega)]; exact g1, by rw [up2_other (by omega)]; exact g2, by rw [up2_other (by omega)]; exact g3, by rw [up2_other (by omega)]; exact g4, by rw [up2_other (by omega)]; exact g5, fun e' he' => by rw [up2_other (by omega)]; exact g6 e' he'⟩
  · by_cases e : x = v
    · subst e
      rw [up2_same, mkn_or hi]
      congr 1
      exact mkn_congr fun r _ => by simp
    · rw [up2_other (by omega), h4 x hx]
      congr 1
      exact mkn_congr fun r _ => by simp [e]
theorem TE.mountd {D : Mem} {B : Bk} {nl : List Nd} {PS EN RS MN : Nd → Nat → Bool} {SV : Nat → Nat → Bool} {MO : Nat → Bool} {i : Nat} (h : TE D B nl PS EN RS MN SV MO) : TE (up2 D 87 i (mo_ B i)) B nl PS EN RS MN SV (fun r => MO r || decide (r = i)) := by
  obtain ⟨h1, h2, h3, h4, h5, h6⟩ := h
  refine ⟨by rw [up2_other (by omega)]; exact h1, h2, fun x hx => ?_, fun x hx => by rw [up2_other (by omega)]; exact h4 x hx, fun r hr hm => ?_, h6⟩
  · obtain ⟨g1, g2, g3, g4, g5, g6⟩ := h3 x hx
    exact ⟨by rw [up2_other (by omega)]; exact g1, by rw [up2_other (by omega)]; exact g2, by rw [up2_other (by omega)]; exact g3, by rw [up2_other (by omega)]; exact g4, by rw [up2_other (by omega)]; exact g5, fun e' he' => by rw [up2_other (by omega)]; exact g6 e' he'⟩
  · by_cases e : r = i
    · subst e; exact up2_same
    · rw [up2_other (by omega)]
      refine h5 r hr ?_
      simpa [e] using hm
