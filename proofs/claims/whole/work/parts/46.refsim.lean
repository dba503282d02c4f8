/-! THE REFERENCE: going through the pile is looking -/
theorem cod_at : ∀ k, k < 6 → ∀ s, s < 8 → ((s < (ordS (oi k)).length → (cod k s = if (ordS (oi k)).getD s 0 = 69 then 0 else if (ordS (oi k)).getD s 0 = 76 then 1 else if (ordS (oi k)).getD s 0 = 67 then 2 else if (ordS (oi k)).getD s 0 = 65 then 3 else if (ordS (oi k)).getD s 0 = 82 then 4 else 5)) ∧ ((ordS (oi k)).length ≤ s → cod k s = 6)) := by decide +kernel
theorem cod_7 : ∀ k, k < 6 → cod k 7 = 6 := by decide
/-- how mounts and starts stand in the frames -/
def VIA (D : Mem) : Nat → List (Nat × Nat) → Prop
  | 0, ms => ms = [] ∧ D 119 0 = 0
  | t + 1, ms => (D 122 (t + 1) = -9 ∧ D 119 (t + 1) = D 119 t ∧ VIA D t ms) ∨ (∃ ms' i a, ms = ms' ++ [(i, a)] ∧ i < 10 ∧ D 122 (t + 1) = nI i ∧ D 119 (t + 1) = nI a ∧ VIA D t ms')
theorem VIA.fq {D D' : Mem} : ∀ {t : Nat} {ms : List (Nat × Nat)}, VIA D t ms → (∀ i, i ≤ t → D' 119 i = D 119 i ∧ D' 122 i = D 122 i) → VIA D' t ms := by
  intro t
  induction t with
  | zero => intro ms h hf; exact ⟨h.1, (hf 0 (Nat.le_refl _)).1.trans h.2⟩
  | succ t ih =>
    intro ms h hf
    rcases h with ⟨h1, h2, h3⟩ | ⟨ms', i, a, h1, h2, h3, h4, h5⟩
    · exact Or.inl ⟨(hf _ (Nat.le_refl _)).2.trans h1, (hf _ (Nat.le_refl _)).1.trans (h2.trans (hf t (by omega)).1.symm), ih h3 (fun i hi => hf i (by omega))⟩
    · exact Or.inr ⟨ms', i, a, h1, h2, (hf _ (Nat.le_refl _)).2.trans h3, (hf _ (Nat.le_refl _)).1.trans h4, ih h5 (fun i hi => hf i (by omega))⟩
def SMT (b i : Nat) : Prop := (b = 104 ∧ (i = 21 ∨ i = 22 ∨ i = 23)) ∨ (115 ≤ b ∧ b ≤ 123)
/-- what the looking at a node whose frame is t may change -/
def SB (t b i : Nat) : Prop := (b = 104 ∧ (i = 21 ∨ i = 22 ∨ i = 23)) ∨ (115 ≤ b ∧ b ≤ 123 ∧ t ≤ i) ∨ (b = 120 ∧ i + 1 = t)
theorem SB.smt {t b i : Nat} (h : SB t b i) : SMT b i := by unfold SB at h; unfold SMT; omega
theorem SMT.scr {b i : Nat} (h : SMT b i) : SCR b i := by unfold SMT at h; unfold SCR; omega
section SIM
variable {B : Bk} {T : Nat → Bool} {K F : Nat → Nat} {L : List Nat} {v : Nat} {C : Mem → Prop}
def GSt (B : Bk) (T : Nat → Bool) (K F : Nat → Nat) (L : List Nat) (v : Nat) (D : Mem) : Prop := RB D B T K F ∧ LT D L ∧ D 104 24 = nI v
theorem GSt.fq {D D' : Mem} (h : GSt B T K F L v D) (hf : Fq SMT D D') : GSt B T K F L v D' :=
  ⟨h.1.fq (hf.mono (fun _ _ q => q.scr)), h.2.1.fq (hf 104 11 (by unfold SMT; omega)) (hf.row (fun i => by unfold SMT; omega)), (hf 104 24 (by unfold SMT; omega)).trans h.2.2⟩
def PAR (D : Mem) (t R2 : Nat) : Prop := ∀ u, t = u + 1 → D 115 u = nI R2 ∧ R2 < 3
def POS (L : List Nat) (t : Nat) (q : Nd) (a : Nat) (ms : List (Nat × Nat)) : Prop := q.1 < 3 ∧ q.2.length ≤ a ∧ a ≤ L.length ∧ ms.length ≤ q.1 ∧ t = a + ms.length
def NODE (B : Bk) (T : Nat → Bool) (K F : Nat → Nat) (L : List Nat) (v : Nat) (D : Mem) (t : Nat) (q : Nd) (a : Nat) (ms : List (Nat × Nat)) (s m : Nat) (c : Bool) (R2 : Nat) : Prop :=
  GSt B T K F L v D ∧ D 104 21 = nI t ∧ D 104 23 = -9 ∧ VIA D t ms ∧ (∃ root via, FRM D t q.1 q.2.length (NW B T q) a root s m via c) ∧ PAR D t R2
def stk (K : Nat → Nat) (R : Nat) : Bool := decide (K R = 4) || decide (K R = 5)
def FAILP (B : Bk) (T : Nat → Bool) (K F : Nat → Nat) (L : List Nat) (v : Nat) (D D' : Mem) (t : Nat) (c : Bool) (R2 n : Nat) : Prop :=
  GSt B T K F L v D' ∧ D' 104 21 = nI t - 1 ∧ D' 104 23 = -9 ∧ D' 104 22 = D 104 22 + nI n ∧ Fq (SB t) D D' ∧ ∀ u, t = u + 1 → D' 120 u = if (c && stk K R2) = true then 7 else D 120 u
def OKP (B : Bk) (T : Nat → Bool) (K F : Nat → Nat) (L : List Nat) (v : Nat) (D D' : Mem) (t e : Nat) (ml : List (Nat × Nat)) (k n : Nat) : Prop :=
  GSt B T K F L v D' ∧ D' 104 23 = nI e ∧ D' 104 22 = D 104 22 + nI n ∧ Fq (SB t) D D' ∧ k ≤ L.length ∧ e < 10 ∧ ∃ u, D' 104 21 = nI u ∧ u ≤ 6 ∧ VIA D' u ml ∧ D' 118 u = nI (L.length - k)
def MID (t : Nat) (D D' : Mem) (n : Nat) : Prop := Fq (SB t) D D' ∧ D' 104 22 = D 104 22 + nI n ∧ ∀ u, t = u + 1 → D' 120 u = D 120 u
theorem MID.fail {D D1 D2 : Mem} {t R2 n n' : Nat} {c : Bool} (h : MID t D D1 n) (g : FAILP B T K F L v D1 D2 t c R2 n') : FAILP B T K F L v D D2 t c R2 (n + n') := by
  obtain ⟨a1, a2, a3⟩ := h
  obtain ⟨b1, b2, b3, b4, b5, b6⟩ := g
  refine ⟨b1, b2, b3, by rw [b4, a2, add32], a1.tr b5, fun u hu => ?_⟩
  rw [b6 u hu, a3 u hu]
theorem MID.ok {D D1 D2 : Mem} {t e k n n' : Nat} {ml : List (Nat × Nat)} (h : MID t D D1 n) (g : OKP B T K F L v D1 D2 t e ml k n') : OKP B T K F L v D D2 t e ml k (n + n') := by
  obtain ⟨a1, a2, a3⟩ := h
  obtain ⟨b1, b2, b4, b5, b6⟩ := g
  exact ⟨b1, b2, by rw [b4, a2, add32], a1.tr b5, b6⟩
theorem MID.tr {D D1 D2 : Mem} {t n n' : Nat} (h : MID t D D1 n) (g : MID t D1 D2 n') : MID t D D2 (n + n') :=
  ⟨h.1.tr g.1, by rw [g.2.1, h.2.1, add32], fun u hu => (g.2.2 u hu).trans (h.2.2 u hu)⟩
theorem MID.rf {D : Mem} {t : Nat} : MID t D D 0 := ⟨Fq.rf, (Int32.add_zero _).symm, fun _ _ => rfl⟩
/-- one more stage may be gone through -/
def STEPC (C : Mem → Prop) : Prop := ∀ (D : Mem) (t : Nat), D 104 21 = nI t → t ≤ 6 → D 104 23 = -9 → ∀ Φ : Mem → Prop, Rvx 4 j_X8_goesStage [.ref 104] D Φ → (∀ D', Φ D' → C D') → C D
theorem POS.t6 {t a : Nat} {q : Nd} {ms : List (Nat × Nat)} (h : POS L t q a ms) (hL : L.length ≤ 4) : t ≤ 6 ∧ q.2.length ≤ 4 := by unfold POS at h; omega
theorem s_over (hV : VB B) (hK : ∀ i, i < 3 → K i ≤ 5 ∧ F i ≤ 9) (hC : STEPC C) {D : Mem} {t a s m R2 : Nat} {q : Nd} {ms : List (Nat × Nat)} {c : Bool} (hp : POS L t q a ms) (hN : NODE B T K F L v D t q a ms s m c R2) (hs : s < 8) (hc : cod (K q.1) s = 6) (hf : ∀ D', FAILP B T K F L v D D' t c R2 0 → C D') : C D := by
  obtain ⟨h1, h2, h3, h4, ⟨root, via, h5⟩, h6⟩ := hN
  have h46 := hp.t6 h1.2.1.2.2.1
  refine hC D t h2 h46.1 h3 _ (sp_gs_over h1.1 hV hK h1.2.1 h5 h2 (by omega) hp.1 (by omega) NW_lt hp.2.2.1 hs hc h6) (fun D' g => hf D' ?_)
  obtain ⟨g1, g2, g3⟩ := g
  have hq : Fq (SB t) D D' := g2.mono (fun b i q => by unfold SBK at q; unfold SB; omega)
  exact ⟨h1.fq (hq.mono (fun _ _ q => q.smt)), g1, by rw [g2 104 23 (by unfold SBK; omega)]; exact h3, by rw [g2 104 22 (by unfold SBK; omega)]; exact (Int32.add_zero _).symm, hq, g3⟩
def lkB (B : Bk) (w v : Nat) (L : List Nat) (K F : Nat → Nat) (m : Nat) (q : Nd) (a : Nat) (ms : List (Nat × Nat)) : LR :=
  if K q.1 = 5 ∧ F q.1 < L.length - a then (none, 0) else lkS (lk B w v L K F m) B w v L (stk K q.1) q a ms (ordS (oi (K q.1)))
theorem lk_s {w m a : Nat} {q : Nd} {ms : List (Nat × Nat)} : lk B w v L K F (m + 1) q a ms = addc 1 (lkB B w v L K F m q a ms) := by
  unfold lkB
  show (if K q.1 = 5 ∧ F q.1 < L.length - a then (none, 1) else addc 1 (lkS (lk B w v L K F m) B w v L (decide (K q.1 = 4) || decide (K q.1 = 5)) q a ms (ordS (oi (K q.1))))) = _
  by_cases h : K q.1 = 5 ∧ F q.1 < L.length - a
  · rw [if_pos h, if_pos h]; rfl
  · rw [if_neg h, if_neg h]; rfl
def MAINP (B : Bk) (T : Nat → Bool) (K F : Nat → Nat) (L : List Nat) (v : Nat) (C : Mem → Prop) (m : Nat) : Prop :=
  ∀ (q : Nd) (a : Nat) (ms : List (Nat × Nat)) (t : Nat) (D : Mem) (c : Bool) (R2 : Nat), m + t = 6 → POS L t q a ms → NODE B T K F L v D t q a ms (s0_ K F q.1 L.length a) 0 c R2 →
    (∀ D', (lkB B (wT B T) v L K F m q a ms).1 = none → FAILP B T K F L v D D' t c R2 (lkB B (wT B T) v L K F m q a ms).2 → C D') →
    (∀ D' e ml k, (lkB B (wT B T) v L K F m q a ms).1 = some (e, ml, k) → OKP B T K F L v D D' t e ml k (lkB B (wT B T) v L K F m q a ms).2 → C D') → C D
/-- a child's frame is put on -/
theorem push_node (hV : VB B) {D1 D2 : Mem} {t a s m R2 : Nat} {q q' : Nd} {a' : Nat} {ms ms' : List (Nat × Nat)} {c c' : Bool} {x5 x6 : Int32} (hp : POS L t q a ms) (hN : NODE B T K F L v D1 t q a ms s m c R2) (hlt : t < 7) (g : PSH D1 D2 (t + 1) (nI q'.1) (nI q'.2.length) (nI (NW B T q')) (nI a') x5 x6 (b2i c') (s0_ K F q'.1 L.length a')) (hr : ∃ root, x5 = nI root) (hvia : (x6 = -9 ∧ x5 = D1 119 t ∧ ms' = ms) ∨ ∃ i, ms' = ms ++ [(i, a)] ∧ i < 10 ∧ x6 = nI i ∧ x5 = nI a) : NODE B T K F L v D2 (t + 1) q' a' ms' (s0_ K F q'.1 L.length a') 0 c' q.1 := by
  obtain ⟨h1, h2, h3, h4, ⟨root, via, h5⟩, h6⟩ := hN
  obtain ⟨g1, g2, g3, g4, g5, g6, g7, g8, g9, g10, g11, g12⟩ := g
  have hlow : ∀ b i, 115 ≤ b → b ≤ 123 → i ≤ t → D2 b i = D1 b i := fun b i _ _ hi => g12 b i (by unfold SPU; omega)
  refine ⟨h1.fq (g12.mono (fun b i q => by unfold SPU at q; unfold SMT; omega)), g1, by rw [g12 104 23 (by unfold SPU; omega)]; exact h3, ?_, ?_, fun u hu => ?_⟩
  · have hv0 : VIA D2 t ms := h4.fq (fun i hi => ⟨hlow 119 i (by omega) (by omega) hi, hlow 122 i (by omega) (by omega) hi⟩)
    rcases hvia with ⟨e1, e2, e3⟩ | ⟨i, e1, e2, e3, e4⟩
    · subst e3
      exact Or.inl ⟨g8.trans e1, by rw [g7, e2, hlow 119 t (by omega) (by omega) (Nat.le_refl _)], hv0⟩
    · exact Or.inr ⟨ms, i, a, e1, e2, g8.trans e3, g7.trans e4, hv0⟩
  · obtain ⟨rt', hrt⟩ := hr
    exact ⟨rt', x6, g3, g4, g5, g6, g7.trans hrt, g11, g10, g8, g9⟩
  · obtain rfl : u = t := by omega
    exact ⟨(hlow 115 u (by omega) (by omega) (Nat.le_refl _)).trans h5.1, hp.1⟩
/-- behind a child that brought nothing -/
theorem back_node {D1 D2 D3 : Mem} {t a s m R2 n : Nat} {q : Nd} {ms : List (Nat × Nat)} {c c' : Bool} (hN : NODE B T K F L v D1 t q a ms s m c R2) (g12 : Fq (SPU (t + 1)) D1 D2) (g2 : D2 104 22 = D1 104 22 + 1) (f : FAILP B T K F L v D2 D3 (t + 1) c' q.1 n) : NODE B T K F L v D3 t q a ms (if (c' && stk K q.1) = true then 7 else s) m c R2 ∧ MID t D1 D3 (1 + n) := by
  obtain ⟨h1, h2, h3, h4, ⟨root, via, h5⟩, h6⟩ := hN
  obtain ⟨f1, f2, f3, f4, f5, f6⟩ := f
  have hlow : ∀ b i, 115 ≤ b → b ≤ 123 → b ≠ 120 → i ≤ t → D3 b i = D1 b i := fun b i _ _ hb hi => (f5 b i (by unfold SB; omega)).trans (g12 b i (by unfold SPU; omega))
  have hq1 : Fq (SB t) D1 D2 := g12.mono (fun b i q => by unfold SPU at q; unfold SB; omega)
  have hq2 : Fq (SB t) D2 D3 := f5.mono (fun b i q => by unfold SB at *; omega)
  have hq := hq1.tr hq2
  have h120 : D3 120 t = nI (if (c' && stk K q.1) = true then 7 else s) := by
    rw [f6 t rfl]
    by_cases e : (c' && stk K q.1) = true
    · rw [if_pos e, if_pos e]; rfl
    · rw [if_neg e, if_neg e, g12 120 t (by unfold SPU; omega)]; exact h5.2.2.2.2.2.1
  refine ⟨⟨f1, f2.trans (sub1 t), f3, h4.fq (fun i hi => ⟨hlow 119 i (by omega) (by omega) (by omega) hi, hlow 122 i (by omega) (by omega) (by omega) hi⟩), ⟨root, via, ?_⟩, fun u hu => ?_⟩, hq, ?_, fun u hu => ?_⟩
  · obtain ⟨a1, a2, a3, a4, a5, a6, a7, a8, a9⟩ := h5
    refine ⟨?_, ?_, ?_, ?_, ?_, h120, ?_, ?_, ?_⟩ <;> (rw [hlow _ t (by omega) (by omega) (by omega) (Nat.le_refl _)]; assumption)
  · rw [hlow 115 u (by omega) (by omega) (by omega) (by omega)]; exact h6 u hu
  · rw [f4, g2, Int32.add_assoc, show (1 : Int32) = nI 1 from rfl, nI_add]
  · rw [f5 120 u (by unfold SB; omega), g12 120 u (by unfold SPU; omega)]
theorem ok_up {D1 D2 D3 : Mem} {t e k n : Nat} {ml : List (Nat × Nat)} (g12 : Fq (SPU (t + 1)) D1 D2) (g2 : D2 104 22 = D1 104 22 + 1) (f : OKP B T K F L v D2 D3 (t + 1) e ml k n) : OKP B T K F L v D1 D3 t e ml k (1 + n) := by
  obtain ⟨f1, f2, f3, f4, f5⟩ := f
  have hq1 : Fq (SB t) D1 D2 := g12.mono (fun b i q => by unfold SPU at q; unfold SB; omega)
  have hq2 : Fq (SB t) D2 D3 := f4.mono (fun b i q => by unfold SB at *; omega)
  exact ⟨f1, f2, by rw [f3, g2, Int32.add_assoc, show (1 : Int32) = nI 1 from rfl, nI_add], hq1.tr hq2, f5⟩
/-- the frame's own stage goes on -/
theorem next_node {D D1 : Mem} {t a s s' m m' R2 : Nat} {q : Nd} {ms : List (Nat × Nat)} {c : Bool} (hN : NODE B T K F L v D t q a ms s m c R2) (hq : Fq (fun b i => (b = 120 ∧ i = t) ∨ (b = 121 ∧ i = t) ∨ (b = 104 ∧ i = 23)) D D1) (h23 : D1 104 23 = -9) (h120 : D1 120 t = nI s') (h121 : D1 121 t = nI m') : NODE B T K F L v D1 t q a ms s' m' c R2 ∧ MID t D D1 0 := by
  obtain ⟨h1, h2, h3, h4, ⟨root, via, h5⟩, h6⟩ := hN
  refine ⟨⟨h1.fq (hq.mono (fun b i q => by unfold SMT; omega)), (hq 104 21 (by omega)).trans h2, h23, h4.fq (fun i hi => ⟨hq 119 i (by omega), hq 122 i (by omega)⟩), ⟨root, via, ?_⟩, fun u hu => ?_⟩, hq.mono (fun b i q => by unfold SB; omega), ?_, fun u hu => hq 120 u (by omega)⟩
  · obtain ⟨a1, a2, a3, a4, a5, a6, a7, a8, a9⟩ := h5
    refine ⟨?_, ?_, ?_, ?_, ?_, h120, h121, ?_, ?_⟩ <;> (rw [hq _ t (by omega)]; assumption)
  · rw [hq 115 u (by omega)]; exact h6 u hu
  · rw [hq 104 22 (by omega)]; exact (Int32.add_zero _).symm
/-- the end is found -/
theorem found_node {D D1 : Mem} {t a s m R2 e : Nat} {q : Nd} {ms : List (Nat × Nat)} {c : Bool} (hp : POS L t q a ms) (ht : t ≤ 6) (he : e < 10) (hN : NODE B T K F L v D t q a ms s m c R2) (hq : Fq (fun b i => (b = 120 ∧ i = t) ∨ (b = 121 ∧ i = t) ∨ (b = 104 ∧ i = 23)) D D1) (h23 : D1 104 23 = nI e) : OKP B T K F L v D D1 t e ms (L.length - a) 0 := by
  obtain ⟨h1, h2, h3, h4, ⟨root, via, h5⟩, h6⟩ := hN
  refine ⟨h1.fq (hq.mono (fun b i q => by unfold SMT; omega)), h23, by rw [hq 104 22 (by omega)]; exact (Int32.add_zero _).symm, hq.mono (fun b i q => by unfold SB; omega), Nat.sub_le _ _, he, t, (hq 104 21 (by omega)).trans h2, ht, h4.fq (fun i hi => ⟨hq 119 i (by omega), hq 122 i (by omega)⟩), ?_⟩
  have := hp.2.2.1
  rw [hq 118 t (by omega), show L.length - (L.length - a) = a by omega]
  exact h5.2.2.2.1
theorem eb_lt {q : Nd} {w a s k : Nat} (h : ebF (RSf B) (ENf B) (SVf B) q w v L s a = some k) : k < 10 := by
  unfold ebF at h
  have := (fst_some h).2.1
  omega
end SIM
