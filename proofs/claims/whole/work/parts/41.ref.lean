/-! THE REFERENCE: its cells, what they hold, small methods -/
section RROWS
variable {d pc nx : Nat} {j : MI} {ls : List (Option Value)} {st : List Value} {D : Mem} {Q : List Value → Wd → Prop}
theorem M_ld {a k L n : Nat} {P : Ptr} {v : Int32} (hd : decode j.2.1 pc = .ok (.iaload, 1)) (hn : pc + 1 = nx) (ha : a < n) (hc : (lay a).1 = 8) (hL : (lay a).2 = L) (hL2 : L < 1000) (hk : k < L) (hv : D a k = v) (kk : X d 138 j nx ls (.int v :: st) (n, P, D) Q) : X d 138 j pc ls (.int (nI k) :: .ref a :: st) (n, P, D) Q := by
  subst hv; subst hL
  refine M_iald hd hn ha hc (vp_in_nI hk (by omega)) ?_
  rw [nI_clamp (by omega)]; exact kk
theorem M_st {a k L n : Nat} {P : Ptr} {x : Int32} (hd : decode j.2.1 pc = .ok (.iastore, 1)) (hn : pc + 1 = nx) (ha : a < n) (hc : (lay a).1 = 8) (hL : (lay a).2 = L) (hL2 : L < 1000) (hk : k < L) (kk : X d 138 j nx ls st (n, P, up2 D a k x) Q) : X d 138 j pc ls (.int x :: .int (nI k) :: .ref a :: st) (n, P, D) Q := by
  subst hL
  refine M_iast hd hn ha hc (vp_in_nI hk (by omega)) ?_
  rw [nI_clamp (by omega)]; exact kk
theorem M_sld {a k n : Nat} {f : Nat → Int32} {v : Int32} {σ : Wd} (hd : decode j.2.1 pc = .ok (.iaload, 1)) (hn : pc + 1 = nx) (hs : ∀ xs L, sarr xs L a = some (n, f)) (hk : k < n ∧ n < 1000) (hv : f k = v) (kk : X d 138 j nx ls (.int v :: st) σ Q) : X d 138 j pc ls (.int (nI k) :: .ref a :: st) σ Q := by
  subst hv
  refine X_sld hd hn hs (vp_in_nI hk.1 (by omega)) ?_
  rw [nI_clamp (by omega)]; exact kk
end RROWS
/-- only these slots differ -/
def Fq (S : Nat → Nat → Prop) (D D' : Mem) : Prop := ∀ b i, ¬ S b i → D' b i = D b i
theorem Fq.rf {S : Nat → Nat → Prop} {D : Mem} : Fq S D D := fun _ _ _ => rfl
theorem Fq.tr {S : Nat → Nat → Prop} {D D' D2 : Mem} (h : Fq S D D') (h2 : Fq S D' D2) : Fq S D D2 := fun b i hb => (h2 b i hb).trans (h b i hb)
theorem Fq.mono {S T : Nat → Nat → Prop} {D D' : Mem} (h : Fq S D D') (hs : ∀ b i, S b i → T b i) : Fq T D D' := fun b i hb => h b i (fun q => hb (hs b i q))
theorem Fq.up {S : Nat → Nat → Prop} {D : Mem} {a i : Nat} {v : Int32} (h : S a i) : Fq S D (up2 D a i v) := fun b k hb => up2_other (fun e => hb (by obtain ⟨e1, e2⟩ := e; subst e1; subst e2; exact h))
theorem Fq.up' {S : Nat → Nat → Prop} {D D1 : Mem} {a i : Nat} {v : Int32} (h : Fq S D D1) (hs : S a i) : Fq S D (up2 D1 a i v) := h.tr (Fq.up hs)
theorem Fq.row {S : Nat → Nat → Prop} {D D' : Mem} (h : Fq S D D') {b : Nat} (hb : ∀ i, ¬ S b i) : D' b = D b := funext fun i => h b i (hb i)
theorem Fq.toFr {S : Nat → Nat → Prop} {C : Nat → Prop} {D D' : Mem} (h : Fq S D D') (hs : ∀ b i, S b i → C b) : Fr C D D' := fun b hb => funext fun i => h b i (fun q => hb (hs b i q))
/-- a book told in nine rows of numbers, who is there, kinds and figures apart -/
def EF (k f t r v m n s : Nat → Int32) (c : Int32) (B : Bk) (T : Nat → Bool) (K F : Nat → Nat) : Prop :=
  (∀ i, i < 3 → k i = nI (K i) ∧ f i = nI (F i)) ∧ c = nI (cm_ B) ∧ ∀ i, i < cm_ B → t i = b2i (T i) ∧ r i = nI (ro_ B i) ∧ v i = vb_ B i ∧ m i = mo_ B i ∧ n i = nI (sg_ B i).length ∧ ∀ x, x < (sg_ B i).length → s (4 * i + x) = nI ((sg_ B i).getD x 0)
def RB (D : Mem) (B : Bk) (T : Nat → Bool) (K F : Nat → Nat) : Prop := EF (D 106) (D 107) (D 108) (D 109) (D 110) (D 111) (D 112) (D 113) (D 104 9) B T K F
def KB (D : Mem) (o : Nat) (B : Bk) : Prop := EF (fun i => D 132 (o + i)) (fun i => D 132 (o + 3 + i)) (fun i => D 132 (o + 6 + i)) (fun i => D 132 (o + 16 + i)) (fun i => D 132 (o + 26 + i)) (fun i => D 132 (o + 36 + i)) (fun i => D 132 (o + 46 + i)) (fun i => D 132 (o + 56 + i)) (D 132 (o + 96)) B (th_ B) (kd_ B) (fg_ B)
def RS (D : Mem) (S : St) : Prop := D 104 39 = b2i (im S) ∧ D 104 33 = nI (tl S).length ∧ (∀ k, k < (tl S).length → D 125 k = nI ((tl S).getD k 0)) ∧ D 104 50 = nI (rw_ S).length ∧ (∀ k, k < (rw_ S).length → D 137 k = nI ((rw_ S).getD k 0)) ∧ (∀ i, 1 ≤ i → i < 7 → D 105 i = rf S i) ∧ (im S = true → KB D 0 (kp S))
def INVT (D : Mem) (S : St) (T : Nat → Bool) (K F : Nat → Nat) : Prop := RB D (bk S) T K F ∧ RS D S
abbrev INV2 (D : Mem) (S : St) : Prop := INVT D S (th_ (bk S)) (kd_ (bk S)) (fg_ (bk S))
/-- what is so of a state by itself -/
def WF (S : St) : Prop := VB (bk S) ∧ PDB (bk S) ∧ (im S = true → VB (kp S) ∧ PDB (kp S)) ∧ (tl S).length ≤ 96 ∧ (rw_ S).length ≤ 30 ∧ (∀ x ∈ tl S, x < 256) ∧ (∀ x ∈ rw_ S, x < 100)
theorem INV1.wf {D : Mem} {S : St} (h : INV1 D S) : WF S := by
  obtain ⟨⟨h1, h2, h3, h4, h5, h6, h7, h8⟩, ⟨s1, s2, s3, s4, s5, s6⟩, ht⟩ := h
  have e1 := s2.1
  have e2 := s3.1
  rw [show (lay (96 + 1)).2 = 96 from by decide] at e1
  rw [show (lay (98 + 1)).2 = 30 from by decide] at e2
  exact ⟨h2, h7, fun q => ⟨(h3 q).2, h8 q⟩, e1, e2, s5, s6⟩
def inR (b : Nat) : Prop := 104 ≤ b ∧ b < 138
def CK2 (D : Mem) (r : Int32 × St) (u : Int32) (D' : Mem) : Prop := u = r.1 ∧ INV2 D' r.2 ∧ Fr inR D D'
def CL2 (D : Mem) (r : Int64 × St) (u : Int64) (D' : Mem) : Prop := u = r.1 ∧ INV2 D' r.2 ∧ Fr inR D D'
/-- slots in which nothing is kept -/
def SCR (b i : Nat) : Prop := (b = 104 ∧ i ≠ 9 ∧ i ≠ 33 ∧ i ≠ 39 ∧ i ≠ 50) ∨ (114 ≤ b ∧ b ≤ 124) ∨ (126 ≤ b ∧ b ≤ 131) ∨ (b = 132 ∧ 98 ≤ i) ∨ (133 ≤ b ∧ b ≤ 136)
theorem SCR.no {b i : Nat} (h : 105 ≤ b ∧ b ≤ 113 ∨ b = 125 ∨ b = 137) : ¬ SCR b i := by unfold SCR; omega
theorem RB.fq {D D' : Mem} {B : Bk} {T : Nat → Bool} {K F : Nat → Nat} (h : RB D B T K F) (hf : Fq SCR D D') : RB D' B T K F := by
  unfold RB at *
  have e : ∀ b, 106 ≤ b → b ≤ 113 → D' b = D b := fun b h1 h2 => hf.row (fun i => SCR.no (by omega))
  rw [e 106 (by omega) (by omega), e 107 (by omega) (by omega), e 108 (by omega) (by omega), e 109 (by omega) (by omega), e 110 (by omega) (by omega), e 111 (by omega) (by omega), e 112 (by omega) (by omega), e 113 (by omega) (by omega), hf 104 9 (by unfold SCR; omega)]
  exact h
theorem EF.congr {k f t r v m n s k' f' t' r' v' m' n' s' : Nat → Int32} {c c' : Int32} {B : Bk} {T : Nat → Bool} {K F : Nat → Nat} (h : EF k f t r v m n s c B T K F) (hB : VB B) (h1 : ∀ i, i < 3 → k' i = k i ∧ f' i = f i) (h2 : c' = c) (h3 : ∀ i, i < 10 → t' i = t i ∧ r' i = r i ∧ v' i = v i ∧ m' i = m i ∧ n' i = n i) (h4 : ∀ i, i < 40 → s' i = s i) : EF k' f' t' r' v' m' n' s' c' B T K F := by
  obtain ⟨g1, g2, g3⟩ := h
  refine ⟨fun i hi => ⟨(h1 i hi).1.trans (g1 i hi).1, (h1 i hi).2.trans (g1 i hi).2⟩, h2.trans g2, fun i hi => ?_⟩
  obtain ⟨a1, a2, a3, a4, a5, a6⟩ := g3 i hi
  have hi2 : i < 10 := Nat.lt_of_lt_of_le hi hB.2.1
  obtain ⟨b1, b2, b3, b4, b5⟩ := h3 i hi2
  exact ⟨b1.trans a1, b2.trans a2, b3.trans a3, b4.trans a4, b5.trans a5, fun x hx => (h4 _ (by have := (hB.2.2 i hi).2.1.1; omega)).trans (a6 x hx)⟩
theorem KB.fq {D D' : Mem} {o : Nat} {B : Bk} (h : KB D o B) (hV : VB B) (hf : ∀ i, o ≤ i → i ≤ o + 96 → D' 132 i = D 132 i) : KB D' o B :=
  EF.congr h hV (fun i hi => ⟨hf _ (by omega) (by omega), hf _ (by omega) (by omega)⟩) (hf _ (by omega) (by omega)) (fun i hi => ⟨hf _ (by omega) (by omega), hf _ (by omega) (by omega), hf _ (by omega) (by omega), hf _ (by omega) (by omega), hf _ (by omega) (by omega)⟩) (fun i hi => hf _ (by omega) (by omega))
theorem RS.fq {D D' : Mem} {S : St} (h : RS D S) (hw : WF S) (hf : Fq SCR D D') : RS D' S := by
  obtain ⟨a1, a2, a3, a4, a5, a6, a7⟩ := h
  refine ⟨by rw [hf 104 39 (by unfold SCR; omega)]; exact a1, by rw [hf 104 33 (by unfold SCR; omega)]; exact a2, fun k hk => by rw [hf 125 k (SCR.no (by omega))]; exact a3 k hk, by rw [hf 104 50 (by unfold SCR; omega)]; exact a4, fun k hk => by rw [hf 137 k (SCR.no (by omega))]; exact a5 k hk, fun i h1 h2 => by rw [hf 105 i (SCR.no (by omega))]; exact a6 i h1 h2, fun q => (a7 q).fq (hw.2.2.1 q).1 (fun i h1 h2 => hf 132 i (by unfold SCR; omega))⟩
theorem INVT.fq {D D' : Mem} {S : St} {T : Nat → Bool} {K F : Nat → Nat} (h : INVT D S T K F) (hw : WF S) (hf : Fq SCR D D') : INVT D' S T K F := ⟨h.1.fq hf, h.2.fq hw hf⟩
theorem SCR.fr {D D' : Mem} (h : Fq SCR D D') : Fr inR D D' := h.toFr (fun b i hb => by unfold SCR at hb; unfold inR; omega)
theorem mkn_cm {p : Nat → Bool} {c n : Nat} (h : c ≤ n) : mkn p c = mkn (fun r => decide (r < c) && p r) n := by
  apply Nat.eq_of_testBit_eq
  intro k
  rw [mkn_tb, mkn_tb]
  by_cases hk : k < c
  · rw [decide_eq_true hk, decide_eq_true (show k < n by omega)]; rfl
  · rw [decide_eq_false hk]; simp
theorem le_ltI (x : Int32) {n : Nat} (h : n + 1 < 2147483648) : x ≤ nI n ↔ x < nI (n + 1) := by
  rw [Int32.le_iff_toInt_le, Int32.lt_iff_toInt_lt, nI_toInt (by omega), nI_toInt (by omega)]
  omega
theorem d_in {x : Int32} {n : Nat} (h : n + 1 < 2147483648) : decide (0 ≤ x ∧ x ≤ nI n) = decide (0 ≤ x ∧ x < nI (n + 1)) := decide_eq_decide.mpr ⟨fun q => ⟨q.1, (le_ltI x h).mp q.2⟩, fun q => ⟨q.1, (le_ltI x h).mpr q.2⟩⟩
theorem d_cm {x : Int32} {c : Nat} (h : c ≤ 1000) : decide (0 ≤ x ∧ x ≤ nI c - 1) = decide (0 ≤ x ∧ x < nI c) := by
  refine decide_eq_decide.mpr ⟨fun q => ⟨q.1, ?_⟩, fun q => ⟨q.1, ?_⟩⟩
  · have q2 := q.2
    rw [Int32.le_iff_toInt_le, show (1 : Int32) = nI 1 from rfl, pk_sub_toInt (by omega) (by omega)] at q2
    rw [Int32.lt_iff_toInt_lt, nI_toInt (by omega)]
    omega
  · have q2 := q.2
    rw [Int32.lt_iff_toInt_lt, nI_toInt (by omega)] at q2
    rw [Int32.le_iff_toInt_le, show (1 : Int32) = nI 1 from rfl, pk_sub_toInt (by omega) (by omega)]
    omega
/-- whether a number is a route's that is there -/
def isTT (B : Bk) (T : Nat → Bool) (x : Int32) : Bool := decide (0 ≤ x ∧ x < nI (cm_ B)) && T x.toNatClampNeg
theorem nI_1' : nI 1 = 1 := rfl
theorem b2i_1 {p : Bool} : b2i p = 1 ↔ p = true := by cases p <;> decide
theorem dX8_isIn_0 : decode cX8_isIn 0 = .ok (.iload_n 0, 1) := by decide +kernel
theorem dX8_isIn_1 : decode cX8_isIn 1 = .ok (.iload_n 1, 1) := by decide +kernel
theorem dX8_isIn_2 : decode cX8_isIn 2 = .ok (.if_icmp .lt 12, 3) := by decide +kernel
theorem dX8_isIn_5 : decode cX8_isIn 5 = .ok (.iload_n 0, 1) := by decide +kernel
theorem dX8_isIn_6 : decode cX8_isIn 6 = .ok (.iload_n 2, 1) := by decide +kernel
theorem dX8_isIn_7 : decode cX8_isIn 7 = .ok (.if_icmp .gt 7, 3) := by decide +kernel
theorem dX8_isIn_10 : decode cX8_isIn 10 = .ok (.iconst 1, 1) := by decide +kernel
theorem dX8_isIn_11 : decode cX8_isIn 11 = .ok (.goto 4, 3) := by decide +kernel
theorem dX8_isIn_14 : decode cX8_isIn 14 = .ok (.iconst 0, 1) := by decide +kernel
theorem dX8_isIn_15 : decode cX8_isIn 15 = .ok (.ireturn, 1) := by decide +kernel
theorem sp_X8_isIn {v a b : Int32} {D : Mem} : Ei 1 j_X8_isIn [.int v, .int a, .int b] D (b2i (decide (a ≤ v ∧ v ≤ b))) (D) := by
  refine E.start 0 (ls := [some (.int v), some (.int a), some (.int b)]) (by decide +kernel) (Nat.le_of_ble_eq_true rfl) rfl (Nat.le_refl _) (Nat.le_refl _) ?_
  refine X_iload_n (nx := 1) dX8_isIn_0 rfl rfl rfl ?_
  refine X_iload_n (nx := 2) dX8_isIn_1 rfl rfl rfl ?_
  refine X_icmp_lt (tgt := 14) (nx := 5) dX8_isIn_2 rfl rfl (fun h2 => ?_) (fun h2 => ?_)
  · skip
    refine X_iconst (v := 0) (nx := 15) dX8_isIn_14 rfl rfl ?_
    exact Y_reti dX8_isIn_15 (Or.inr ⟨rfl, by first | exact Or.inl rfl | exact Or.inr rfl | exact b2i_01 _ | assumption⟩) (by first | exact cl_t ⟨Int32.not_lt.mp h2, Int32.not_lt.mp h7⟩ | exact cl_f (fun q => Int32.not_lt.mpr q.1 h2) | exact cl_f (fun q => Int32.not_lt.mpr q.2 h7)) rfl
  · skip
    refine X_iload_n (nx := 6) dX8_isIn_5 rfl rfl rfl ?_
    refine X_iload_n (nx := 7) dX8_isIn_6 rfl rfl rfl ?_
    refine X_icmp_gt (tgt := 14) (nx := 10) dX8_isIn_7 rfl rfl (fun h7 => ?_) (fun h7 => ?_)
    · skip
      refine X_iconst (v := 0) (nx := 15) dX8_isIn_14 rfl rfl ?_
      exact Y_reti dX8_isIn_15 (Or.inr ⟨rfl, by first | exact Or.inl rfl | exact Or.inr rfl | exact b2i_01 _ | assumption⟩) (by first | exact cl_t ⟨Int32.not_lt.mp h2, Int32.not_lt.mp h7⟩ | exact cl_f (fun q => Int32.not_lt.mpr q.1 h2) | exact cl_f (fun q => Int32.not_lt.mpr q.2 h7)) rfl
    · skip
      refine X_iconst (v := 1) (nx := 11) dX8_isIn_10 rfl rfl ?_
      refine X_goto (tgt := 15) dX8_isIn_11 rfl ?_
      exact Y_reti dX8_isIn_15 (Or.inr ⟨rfl, by first | exact Or.inl rfl | exact Or.inr rfl | exact b2i_01 _ | assumption⟩) (by first | exact cl_t ⟨Int32.not_lt.mp h2, Int32.not_lt.mp h7⟩ | exact cl_f (fun q => Int32.not_lt.mpr q.1 h2) | exact cl_f (fun q => Int32.not_lt.mpr q.2 h7)) rfl
theorem dX8_beyond_0 : decode cX8_beyond 0 = .ok (.iload_n 0, 1) := by decide +kernel
theorem dX8_beyond_1 : decode cX8_beyond 1 = .ok (.iload_n 1, 1) := by decide +kernel
theorem dX8_beyond_2 : decode cX8_beyond 2 = .ok (.if_icmp .ge 8, 3) := by decide +kernel
theorem dX8_beyond_5 : decode cX8_beyond 5 = .ok (.bipush (-4), 2) := by decide +kernel
theorem dX8_beyond_7 : decode cX8_beyond 7 = .ok (.goto 14, 3) := by decide +kernel
theorem dX8_beyond_10 : decode cX8_beyond 10 = .ok (.iload_n 0, 1) := by decide +kernel
theorem dX8_beyond_11 : decode cX8_beyond 11 = .ok (.iload_n 2, 1) := by decide +kernel
theorem dX8_beyond_12 : decode cX8_beyond 12 = .ok (.if_icmp .le 8, 3) := by decide +kernel
theorem dX8_beyond_15 : decode cX8_beyond 15 = .ok (.bipush (-6), 2) := by decide +kernel
theorem dX8_beyond_17 : decode cX8_beyond 17 = .ok (.goto 4, 3) := by decide +kernel
theorem dX8_beyond_20 : decode cX8_beyond 20 = .ok (.iconst 0, 1) := by decide +kernel
theorem dX8_beyond_21 : decode cX8_beyond 21 = .ok (.ireturn, 1) := by decide +kernel
theorem sp_X8_beyond {v a b : Int32} {D : Mem} : Ei 1 j_X8_beyond [.int v, .int a, .int b] D ((if v < a then -4 else if b < v then -6 else 0)) (D) := by
  refine E.start 0 (ls := [some (.int v), some (.int a), some (.int b)]) (by decide +kernel) (Nat.le_of_ble_eq_true rfl) rfl (Nat.le_refl _) (Nat.le_refl _) ?_
  refine X_iload_n (nx := 1) dX8_beyond_0 rfl rfl rfl ?_
  refine X_iload_n (nx := 2) dX8_beyond_1 rfl rfl rfl ?_
  refine X_icmp_ge (tgt := 10) (nx := 5) dX8_beyond_2 rfl rfl (fun h2 => ?_) (fun h2 => ?_)
  · skip
    refine X_iload_n (nx := 11) dX8_beyond_10 rfl rfl rfl ?_
    refine X_iload_n (nx := 12) dX8_beyond_11 rfl rfl rfl ?_
    refine X_icmp_le (tgt := 20) (nx := 15) dX8_beyond_12 rfl rfl (fun h12 => ?_) (fun h12 => ?_)
    · skip
      refine X_iconst (v := 0) (nx := 21) dX8_beyond_20 rfl rfl ?_
      exact Y_reti dX8_beyond_21 (Or.inl rfl) (by first | rw [if_pos (Int32.not_le.mp h2)] | rw [if_neg (Int32.not_lt.mpr h2), if_pos (Int32.not_le.mp h12)] | rw [if_neg (Int32.not_lt.mpr h2), if_neg (Int32.not_lt.mpr h12)]) rfl
    · skip
      refine X_bipush (v := -6) (nx := 17) dX8_beyond_15 rfl rfl ?_
      refine X_goto (tgt := 21) dX8_beyond_17 rfl ?_
      exact Y_reti dX8_beyond_21 (Or.inl rfl) (by first | rw [if_pos (Int32.not_le.mp h2)] | rw [if_neg (Int32.not_lt.mpr h2), if_pos (Int32.not_le.mp h12)] | rw [if_neg (Int32.not_lt.mpr h2), if_neg (Int32.not_lt.mpr h12)]) rfl
  · skip
    refine X_bipush (v := -4) (nx := 7) dX8_beyond_5 rfl rfl ?_
    refine X_goto (tgt := 21) dX8_beyond_7 rfl ?_
    exact Y_reti dX8_beyond_21 (Or.inl rfl) (by first | rw [if_pos (Int32.not_le.mp h2)] | rw [if_neg (Int32.not_lt.mpr h2), if_pos (Int32.not_le.mp h12)] | rw [if_neg (Int32.not_lt.mpr h2), if_neg (Int32.not_lt.mpr h12)]) rfl
theorem dX8_isRouter_0 : decode cX8_isRouter 0 = .ok (.iload_n 0, 1) := by decide +kernel
theorem dX8_isRouter_1 : decode cX8_isRouter 1 = .ok (.iconst 0, 1) := by decide +kernel
theorem dX8_isRouter_2 : decode cX8_isRouter 2 = .ok (.iconst 2, 1) := by decide +kernel
theorem dX8_isRouter_3 : decode cX8_isRouter 3 = .ok (.invokestatic 115, 3) := by decide +kernel
theorem dX8_isRouter_6 : decode cX8_isRouter 6 = .ok (.ireturn, 1) := by decide +kernel
theorem sp_X8_isRouter {x : Int32} {D : Mem} : Ei 2 j_X8_isRouter [.int x] D (b2i (decide (0 ≤ x ∧ x < 3))) (D) := by
  refine E.start 0 (ls := [some (.int x)]) (by decide +kernel) (Nat.le_of_ble_eq_true rfl) rfl (Nat.le_refl _) (Nat.le_refl _) ?_
  refine X_iload_n (nx := 1) dX8_isRouter_0 rfl rfl rfl ?_
  refine X_iconst (v := 0) (nx := 2) dX8_isRouter_1 rfl rfl ?_
  refine X_iconst (v := 2) (nx := 3) dX8_isRouter_2 rfl rfl ?_
  refine Y_Si3 (nx := 6) dX8_isRouter_3 rfl ml_RX8_115 kj_X8_isIn ks_X8_isIn (sp_X8_isIn) (by first | decide | omega) (by exact Nat.le_of_ble_eq_true rfl) ?_
  exact Y_reti dX8_isRouter_6 (Or.inr ⟨rfl, by first | exact Or.inl rfl | exact Or.inr rfl | exact b2i_01 _ | assumption⟩) (congrArg b2i (d_in (n := 2) (by decide))) rfl
theorem dX8_isPath_0 : decode cX8_isPath 0 = .ok (.iload_n 0, 1) := by decide +kernel
theorem dX8_isPath_1 : decode cX8_isPath 1 = .ok (.iconst 0, 1) := by decide +kernel
theorem dX8_isPath_2 : decode cX8_isPath 2 = .ok (.sipush 340, 3) := by decide +kernel
theorem dX8_isPath_5 : decode cX8_isPath 5 = .ok (.invokestatic 115, 3) := by decide +kernel
theorem dX8_isPath_8 : decode cX8_isPath 8 = .ok (.ireturn, 1) := by decide +kernel
theorem sp_X8_isPath {x : Int32} {D : Mem} : Ei 2 j_X8_isPath [.int x] D (b2i (decide (0 ≤ x ∧ x < 341))) (D) := by
  refine E.start 0 (ls := [some (.int x)]) (by decide +kernel) (Nat.le_of_ble_eq_true rfl) rfl (Nat.le_refl _) (Nat.le_refl _) ?_
  refine X_iload_n (nx := 1) dX8_isPath_0 rfl rfl rfl ?_
  refine X_iconst (v := 0) (nx := 2) dX8_isPath_1 rfl rfl ?_
  refine X_sipush (v := 340) (nx := 5) dX8_isPath_2 rfl rfl ?_
  refine Y_Si3 (nx := 8) dX8_isPath_5 rfl ml_RX8_115 kj_X8_isIn ks_X8_isIn (sp_X8_isIn) (by first | decide | omega) (by exact Nat.le_of_ble_eq_true rfl) ?_
  exact Y_reti dX8_isPath_8 (Or.inr ⟨rfl, by first | exact Or.inl rfl | exact Or.inr rfl | exact b2i_01 _ | assumption⟩) (congrArg b2i (d_in (n := 340) (by decide))) rfl
theorem dX8_isVerb_0 : decode cX8_isVerb 0 = .ok (.iload_n 0, 1) := by decide +kernel
theorem dX8_isVerb_1 : decode cX8_isVerb 1 = .ok (.iconst 0, 1) := by decide +kernel
theorem dX8_isVerb_2 : decode cX8_isVerb 2 = .ok (.iconst 3, 1) := by decide +kernel
theorem dX8_isVerb_3 : decode cX8_isVerb 3 = .ok (.invokestatic 115, 3) := by decide +kernel
theorem dX8_isVerb_6 : decode cX8_isVerb 6 = .ok (.ireturn, 1) := by decide +kernel
theorem sp_X8_isVerb {x : Int32} {D : Mem} : Ei 2 j_X8_isVerb [.int x] D (b2i (decide (0 ≤ x ∧ x < 4))) (D) := by
  refine E.start 0 (ls := [some (.int x)]) (by decide +kernel) (Nat.le_of_ble_eq_true rfl) rfl (Nat.le_refl _) (Nat.le_refl _) ?_
  refine X_iload_n (nx := 1) dX8_isVerb_0 rfl rfl rfl ?_
  refine X_iconst (v := 0) (nx := 2) dX8_isVerb_1 rfl rfl ?_
  refine X_iconst (v := 3) (nx := 3) dX8_isVerb_2 rfl rfl ?_
  refine Y_Si3 (nx := 6) dX8_isVerb_3 rfl ml_RX8_115 kj_X8_isIn ks_X8_isIn (sp_X8_isIn) (by first | decide | omega) (by exact Nat.le_of_ble_eq_true rfl) ?_
  exact Y_reti dX8_isVerb_6 (Or.inr ⟨rfl, by first | exact Or.inl rfl | exact Or.inr rfl | exact b2i_01 _ | assumption⟩) (congrArg b2i (d_in (n := 3) (by decide))) rfl
theorem dX8_isRoute_0 : decode cX8_isRoute 0 = .ok (.iload_n 1, 1) := by decide +kernel
theorem dX8_isRoute_1 : decode cX8_isRoute 1 = .ok (.iconst 0, 1) := by decide +kernel
theorem dX8_isRoute_2 : decode cX8_isRoute 2 = .ok (.aload_n 0, 1) := by decide +kernel
theorem dX8_isRoute_3 : decode cX8_isRoute 3 = .ok (.getfield 109, 3) := by decide +kernel
theorem dX8_isRoute_6 : decode cX8_isRoute 6 = .ok (.iconst 1, 1) := by decide +kernel
theorem dX8_isRoute_7 : decode cX8_isRoute 7 = .ok (.isub, 1) := by decide +kernel
theorem dX8_isRoute_8 : decode cX8_isRoute 8 = .ok (.invokestatic 115, 3) := by decide +kernel
theorem dX8_isRoute_11 : decode cX8_isRoute 11 = .ok (.ifCond .eq 17, 3) := by decide +kernel
theorem dX8_isRoute_14 : decode cX8_isRoute 14 = .ok (.aload_n 0, 1) := by decide +kernel
theorem dX8_isRoute_15 : decode cX8_isRoute 15 = .ok (.getfield 19, 3) := by decide +kernel
theorem dX8_isRoute_18 : decode cX8_isRoute 18 = .ok (.iload_n 1, 1) := by decide +kernel
theorem dX8_isRoute_19 : decode cX8_isRoute 19 = .ok (.iaload, 1) := by decide +kernel
theorem dX8_isRoute_20 : decode cX8_isRoute 20 = .ok (.iconst 1, 1) := by decide +kernel
theorem dX8_isRoute_21 : decode cX8_isRoute 21 = .ok (.if_icmp .ne 7, 3) := by decide +kernel
theorem dX8_isRoute_24 : decode cX8_isRoute 24 = .ok (.iconst 1, 1) := by decide +kernel
theorem dX8_isRoute_25 : decode cX8_isRoute 25 = .ok (.goto 4, 3) := by decide +kernel
theorem dX8_isRoute_28 : decode cX8_isRoute 28 = .ok (.iconst 0, 1) := by decide +kernel
theorem dX8_isRoute_29 : decode cX8_isRoute 29 = .ok (.ireturn, 1) := by decide +kernel
theorem bF {p : Bool} (h : ¬ b2i p = 1) : (0 : Int32) = b2i p := by cases p; rfl; exact absurd rfl h
theorem sp_X8_isRoute {x : Int32} {B : Bk} {T : Nat → Bool} {K F : Nat → Nat} {D : Mem} (h : RB D B T K F) (hV : VB B) : Ei 2 j_X8_isRoute [.ref 104, .int x] D (b2i (isTT B T x)) (D) := by
  refine E.start 0 (ls := [some (.ref 104), some (.int x)]) (by decide +kernel) (Nat.le_of_ble_eq_true rfl) rfl (Nat.le_refl _) (Nat.le_refl _) ?_
  obtain ⟨hB1, hB2, hB3⟩ := h
  have hcm := hV.2.1
  refine X_iload_n (nx := 1) dX8_isRoute_0 rfl rfl rfl ?_
  refine X_iconst (v := 0) (nx := 2) dX8_isRoute_1 rfl rfl ?_
  refine X_aload_n (nx := 3) dX8_isRoute_2 rfl rfl rfl ?_
  refine M_getI (nx := 6) dX8_isRoute_3 rfl fl_RX8_109 rfl (by first | assumption | rfl | decide | omega) (by first | assumption | rfl | decide | omega) ?_
  refine X_top (hB2) ?_
  refine X_iconst (v := 1) (nx := 7) dX8_isRoute_6 rfl rfl ?_
  refine X_isub (nx := 8) dX8_isRoute_7 rfl ?_
  refine Y_Si3 (nx := 11) dX8_isRoute_8 rfl ml_RX8_115 kj_X8_isIn ks_X8_isIn (sp_X8_isIn) (by first | decide | omega) (by exact Nat.le_of_ble_eq_true rfl) ?_
  refine X_top (congrArg b2i (d_cm (by omega))) ?_
  refine X_if_eq (tgt := 28) (nx := 14) dX8_isRoute_11 rfl rfl (fun h11 => ?_) (fun h11 => ?_)
  · skip
    have n11 := nb h11
    refine X_iconst (v := 0) (nx := 29) dX8_isRoute_28 rfl rfl ?_
    exact Y_reti dX8_isRoute_29 (Or.inr ⟨rfl, by first | exact Or.inl rfl | exact Or.inr rfl | exact b2i_01 _ | assumption⟩) (by unfold isTT; first | (rw [decide_eq_false (fun q => n11 (decide_eq_true q))]; rfl) | (rw [c11, kr, b2i_1.mp h21]; rfl) | (rw [c11, kr, Bool.true_and]; exact bF h21)) rfl
  · skip
    have c11 := b2i_t.mp h11
    obtain ⟨r, hr, rfl⟩ := ex_nI rfl (by omega) (of_decide_eq_true c11)
    have kr : (nI r).toNatClampNeg = r := nI_clamp (by omega)
    refine X_aload_n (nx := 15) dX8_isRoute_14 rfl rfl rfl ?_
    refine M_getP (nx := 18) dX8_isRoute_15 rfl fl_RX8_19 rfl (by first | assumption | rfl | decide | omega) (by first | assumption | rfl | decide | omega) (by first | assumption | rfl | decide | omega) ?_
    refine X_iload_n (nx := 19) dX8_isRoute_18 rfl rfl rfl ?_
    refine M_ld (a := 108) (L := 10) (nx := 20) dX8_isRoute_19 rfl (by decide) (by decide) rfl (by decide) (by omega) ((hB3 r hr).1) ?_
    refine X_iconst (v := 1) (nx := 21) dX8_isRoute_20 rfl rfl ?_
    refine X_icmp_ne (tgt := 28) (nx := 24) dX8_isRoute_21 rfl rfl (fun h21 => ?_) (fun h21 => ?_)
    · skip
      refine X_iconst (v := 0) (nx := 29) dX8_isRoute_28 rfl rfl ?_
      exact Y_reti dX8_isRoute_29 (Or.inr ⟨rfl, by first | exact Or.inl rfl | exact Or.inr rfl | exact b2i_01 _ | assumption⟩) (by unfold isTT; first | (rw [decide_eq_false (fun q => n11 (decide_eq_true q))]; rfl) | (rw [c11, kr, b2i_1.mp h21]; rfl) | (rw [c11, kr, Bool.true_and]; exact bF h21)) rfl
    · skip
      refine X_iconst (v := 1) (nx := 25) dX8_isRoute_24 rfl rfl ?_
      refine X_goto (tgt := 29) dX8_isRoute_25 rfl ?_
      exact Y_reti dX8_isRoute_29 (Or.inr ⟨rfl, by first | exact Or.inl rfl | exact Or.inr rfl | exact b2i_01 _ | assumption⟩) (by unfold isTT; first | (rw [decide_eq_false (fun q => n11 (decide_eq_true q))]; rfl) | (rw [c11, kr, b2i_1.mp h21]; rfl) | (rw [c11, kr, Bool.true_and]; exact bF h21)) rfl
theorem dX8_isMount_0 : decode cX8_isMount 0 = .ok (.aload_n 0, 1) := by decide +kernel
theorem dX8_isMount_1 : decode cX8_isMount 1 = .ok (.getfield 28, 3) := by decide +kernel
theorem dX8_isMount_4 : decode cX8_isMount 4 = .ok (.iload_n 1, 1) := by decide +kernel
theorem dX8_isMount_5 : decode cX8_isMount 5 = .ok (.iaload, 1) := by decide +kernel
theorem dX8_isMount_6 : decode cX8_isMount 6 = .ok (.ifCond .lt 7, 3) := by decide +kernel
theorem dX8_isMount_9 : decode cX8_isMount 9 = .ok (.iconst 1, 1) := by decide +kernel
theorem dX8_isMount_10 : decode cX8_isMount 10 = .ok (.goto 4, 3) := by decide +kernel
theorem dX8_isMount_13 : decode cX8_isMount 13 = .ok (.iconst 0, 1) := by decide +kernel
theorem dX8_isMount_14 : decode cX8_isMount 14 = .ok (.ireturn, 1) := by decide +kernel
theorem sp_X8_isMount {r : Nat} {x : Int32} {B : Bk} {T : Nat → Bool} {K F : Nat → Nat} {D : Mem} (h : RB D B T K F) (hV : VB B) (hx : x = nI r) (hr : r < cm_ B) : Ei 1 j_X8_isMount [.ref 104, .int x] D (b2i (mtB B r)) (D) := by
  refine E.start 0 (ls := [some (.ref 104), some (.int x)]) (by decide +kernel) (Nat.le_of_ble_eq_true rfl) rfl (Nat.le_refl _) (Nat.le_refl _) ?_
  subst hx
  obtain ⟨hB1, hB2, hB3⟩ := h
  have hcm := hV.2.1
  refine X_aload_n (nx := 1) dX8_isMount_0 rfl rfl rfl ?_
  refine M_getP (nx := 4) dX8_isMount_1 rfl fl_RX8_28 rfl (by first | assumption | rfl | decide | omega) (by first | assumption | rfl | decide | omega) (by first | assumption | rfl | decide | omega) ?_
  refine X_iload_n (nx := 5) dX8_isMount_4 rfl rfl rfl ?_
  refine M_ld (a := 111) (L := 10) (nx := 6) dX8_isMount_5 rfl (by decide) (by decide) rfl (by decide) (by omega) ((hB3 r hr).2.2.2.1) ?_
  refine X_if_lt (tgt := 13) (nx := 9) dX8_isMount_6 rfl rfl (fun h6 => ?_) (fun h6 => ?_)
  · skip
    refine X_iconst (v := 0) (nx := 14) dX8_isMount_13 rfl rfl ?_
    exact Y_reti dX8_isMount_14 (Or.inr ⟨rfl, by first | exact Or.inl rfl | exact Or.inr rfl | exact b2i_01 _ | assumption⟩) (by unfold mtB; first | exact cl_t (Int32.not_lt.mp h6) | exact cl_f (Int32.not_le.mpr h6)) rfl
  · skip
    refine X_iconst (v := 1) (nx := 10) dX8_isMount_9 rfl rfl ?_
    refine X_goto (tgt := 14) dX8_isMount_10 rfl ?_
    exact Y_reti dX8_isMount_14 (Or.inr ⟨rfl, by first | exact Or.inl rfl | exact Or.inr rfl | exact b2i_01 _ | assumption⟩) (by unfold mtB; first | exact cl_t (Int32.not_lt.mp h6) | exact cl_f (Int32.not_le.mpr h6)) rfl
theorem typ_I {s : Nat} (h : 10 ≤ s) (h2 : s ≤ 40) : nI 4 + nI s / nI 10 - 1 = nI (typ s) := by
  rw [pk_div (by omega) (by omega) (by omega), nI_add, show (1 : Int32) = nI 1 from rfl, sub_nI (by omega)]
  congr 1
  unfold typ
  rw [if_neg (by omega)]; omega
theorem sgl_le {B : Bk} (hV : VB B) {r : Nat} (hr : r < cm_ B) : (sg_ B r).length ≤ 4 := (hV.2.2 r hr).2.1.1
theorem sg_le {B : Bk} (hV : VB B) {r i : Nat} (hr : r < cm_ B) (hi : i < (sg_ B r).length) : (sg_ B r).getD i 0 ≤ 40 := sgv_le ((hV.2.2 r hr).2.1.2.1 _ (getD_in hi))
theorem mul_nI {a b : Nat} : nI a * nI b = nI (a * b) := pk_mul a b
theorem rs_iff {s : List Nat} (h : VS s) : decide (pl s < s.length) = (decide (0 < s.length) && decide (s.getD (s.length - 1) 0 = 40)) := by
  by_cases h0 : 0 < s.length
  · rw [decide_eq_true h0, Bool.true_and]
    refine decide_eq_decide.mpr ⟨fun q => ?_, fun q => ?_⟩
    · by_cases e : s.getD (s.length - 1) 0 = 40
      · exact e
      · exfalso
        have : s.filter (fun x => decide (x ≠ 40)) = s := List.filter_eq_self.mpr (fun x hx => by
          obtain ⟨k, hk, rfl⟩ := List.mem_iff_getElem.mp hx
          have e2 : s[k] = s.getD k 0 := by rw [List.getD_eq_getElem?_getD, List.getElem?_eq_getElem hk]; rfl
          rw [e2]
          by_cases ek : k + 1 < s.length
          · exact decide_eq_true (h.2.2 k ek)
          · rw [show k = s.length - 1 by omega]; exact decide_eq_true e)
        have h2 : pl s = s.length := congrArg List.length this
        omega
    · have h1 := pl_le s
      by_cases e : pl s = s.length
      · exact absurd q (pl_all e (s.length - 1) (by omega))
      · omega
  · rw [decide_eq_false h0, Bool.false_and]
    exact decide_eq_false (by omega)
theorem typ_7 {x : Nat} (h : sgv x) : typ x = 7 ↔ x = 40 := by
  unfold sgv at h; unfold typ
  split <;> omega
theorem dX8_typeOf_0 : decode cX8_typeOf 0 = .ok (.aload_n 0, 1) := by decide +kernel
theorem dX8_typeOf_1 : decode cX8_typeOf 1 = .ok (.getfield 34, 3) := by decide +kernel
theorem dX8_typeOf_4 : decode cX8_typeOf 4 = .ok (.iconst 4, 1) := by decide +kernel
theorem dX8_typeOf_5 : decode cX8_typeOf 5 = .ok (.iload_n 1, 1) := by decide +kernel
theorem dX8_typeOf_6 : decode cX8_typeOf 6 = .ok (.imul, 1) := by decide +kernel
theorem dX8_typeOf_7 : decode cX8_typeOf 7 = .ok (.iload_n 2, 1) := by decide +kernel
theorem dX8_typeOf_8 : decode cX8_typeOf 8 = .ok (.iadd, 1) := by decide +kernel
theorem dX8_typeOf_9 : decode cX8_typeOf 9 = .ok (.iaload, 1) := by decide +kernel
theorem dX8_typeOf_10 : decode cX8_typeOf 10 = .ok (.istore_n 3, 1) := by decide +kernel
theorem dX8_typeOf_11 : decode cX8_typeOf 11 = .ok (.iload_n 3, 1) := by decide +kernel
theorem dX8_typeOf_12 : decode cX8_typeOf 12 = .ok (.bipush 10, 2) := by decide +kernel
theorem dX8_typeOf_14 : decode cX8_typeOf 14 = .ok (.if_icmp .ge 7, 3) := by decide +kernel
theorem dX8_typeOf_17 : decode cX8_typeOf 17 = .ok (.iload_n 3, 1) := by decide +kernel
theorem dX8_typeOf_18 : decode cX8_typeOf 18 = .ok (.goto 11, 3) := by decide +kernel
theorem dX8_typeOf_21 : decode cX8_typeOf 21 = .ok (.iconst 4, 1) := by decide +kernel
theorem dX8_typeOf_22 : decode cX8_typeOf 22 = .ok (.iload_n 3, 1) := by decide +kernel
theorem dX8_typeOf_23 : decode cX8_typeOf 23 = .ok (.bipush 10, 2) := by decide +kernel
theorem dX8_typeOf_25 : decode cX8_typeOf 25 = .ok (.idiv, 1) := by decide +kernel
theorem dX8_typeOf_26 : decode cX8_typeOf 26 = .ok (.iadd, 1) := by decide +kernel
theorem dX8_typeOf_27 : decode cX8_typeOf 27 = .ok (.iconst 1, 1) := by decide +kernel
theorem dX8_typeOf_28 : decode cX8_typeOf 28 = .ok (.isub, 1) := by decide +kernel
theorem dX8_typeOf_29 : decode cX8_typeOf 29 = .ok (.ireturn, 1) := by decide +kernel
theorem sp_X8_typeOf {r i : Nat} {x y : Int32} {B : Bk} {T : Nat → Bool} {K F : Nat → Nat} {D : Mem} (h : RB D B T K F) (hV : VB B) (hx : x = nI r) (hr : r < cm_ B) (hy : y = nI i) (hi : i < (sg_ B r).length) : Ei 1 j_X8_typeOf [.ref 104, .int x, .int y] D (nI (typ ((sg_ B r).getD i 0))) (D) := by
  refine E.start 1 (ls := [some (.ref 104), some (.int x), some (.int y), none]) (by decide +kernel) (Nat.le_of_ble_eq_true rfl) rfl (Nat.le_refl _) (Nat.le_refl _) ?_
  subst hx; subst hy
  have hl4 := sgl_le hV hr
  have hs40 := sg_le hV hr hi
  obtain ⟨hB1, hB2, hB3⟩ := h
  have hcm := hV.2.1
  refine X_aload_n (nx := 1) dX8_typeOf_0 rfl rfl rfl ?_
  refine M_getP (nx := 4) dX8_typeOf_1 rfl fl_RX8_34 rfl (by first | assumption | rfl | decide | omega) (by first | assumption | rfl | decide | omega) (by first | assumption | rfl | decide | omega) ?_
  refine X_iconst (v := nI 4) (nx := 5) dX8_typeOf_4 rfl rfl ?_
  refine X_iload_n (nx := 6) dX8_typeOf_5 rfl rfl rfl ?_
  refine X_imul (nx := 7) dX8_typeOf_6 rfl ?_
  refine X_top (mul_nI) ?_
  refine X_iload_n (nx := 8) dX8_typeOf_7 rfl rfl rfl ?_
  refine X_iadd (nx := 9) dX8_typeOf_8 rfl ?_
  refine X_top (nI_add _ _) ?_
  refine M_ld (a := 113) (L := 40) (nx := 10) dX8_typeOf_9 rfl (by decide) (by decide) rfl (by decide) (by omega) ((hB3 r hr).2.2.2.2.2 i hi) ?_
  refine X_istore_n (i := 3) (nx := 11) dX8_typeOf_10 rfl rfl (by decide) rfl (st_s (st_s (st_s (st_0)))) ?_
  refine X_iload_n (nx := 12) dX8_typeOf_11 rfl rfl rfl ?_
  refine X_bipush (v := nI 10) (nx := 14) dX8_typeOf_12 rfl rfl ?_
  refine X_icmp_ge (tgt := 21) (nx := 17) dX8_typeOf_14 rfl rfl (fun h14 => ?_) (fun h14 => ?_)
  · skip
    rw [nI_leI (by omega) (by omega)] at h14
    refine X_iconst (v := nI 4) (nx := 22) dX8_typeOf_21 rfl rfl ?_
    refine X_iload_n (nx := 23) dX8_typeOf_22 rfl rfl rfl ?_
    refine X_bipush (v := nI 10) (nx := 25) dX8_typeOf_23 rfl rfl ?_
    refine X_idiv (nx := 26) dX8_typeOf_25 rfl (by decide) ?_
    refine X_iadd (nx := 27) dX8_typeOf_26 rfl ?_
    refine X_iconst (v := 1) (nx := 28) dX8_typeOf_27 rfl rfl ?_
    refine X_isub (nx := 29) dX8_typeOf_28 rfl ?_
    exact Y_reti dX8_typeOf_29 (Or.inl rfl) (by first | exact typ_I h14 hs40 | (unfold typ; rw [if_pos (by omega)])) rfl
  · skip
    rw [nI_leI (by omega) (by omega)] at h14
    refine X_iload_n (nx := 18) dX8_typeOf_17 rfl rfl rfl ?_
    refine X_goto (tgt := 29) dX8_typeOf_18 rfl ?_
    exact Y_reti dX8_typeOf_29 (Or.inl rfl) (by first | exact typ_I h14 hs40 | (unfold typ; rw [if_pos (by omega)])) rfl
theorem dX8_hasRest_0 : decode cX8_hasRest 0 = .ok (.aload_n 0, 1) := by decide +kernel
theorem dX8_hasRest_1 : decode cX8_hasRest 1 = .ok (.getfield 31, 3) := by decide +kernel
theorem dX8_hasRest_4 : decode cX8_hasRest 4 = .ok (.iload_n 1, 1) := by decide +kernel
theorem dX8_hasRest_5 : decode cX8_hasRest 5 = .ok (.iaload, 1) := by decide +kernel
theorem dX8_hasRest_6 : decode cX8_hasRest 6 = .ok (.ifCond .le 25, 3) := by decide +kernel
theorem dX8_hasRest_9 : decode cX8_hasRest 9 = .ok (.aload_n 0, 1) := by decide +kernel
theorem dX8_hasRest_10 : decode cX8_hasRest 10 = .ok (.iload_n 1, 1) := by decide +kernel
theorem dX8_hasRest_11 : decode cX8_hasRest 11 = .ok (.aload_n 0, 1) := by decide +kernel
theorem dX8_hasRest_12 : decode cX8_hasRest 12 = .ok (.getfield 31, 3) := by decide +kernel
theorem dX8_hasRest_15 : decode cX8_hasRest 15 = .ok (.iload_n 1, 1) := by decide +kernel
theorem dX8_hasRest_16 : decode cX8_hasRest 16 = .ok (.iaload, 1) := by decide +kernel
theorem dX8_hasRest_17 : decode cX8_hasRest 17 = .ok (.iconst 1, 1) := by decide +kernel
theorem dX8_hasRest_18 : decode cX8_hasRest 18 = .ok (.isub, 1) := by decide +kernel
theorem dX8_hasRest_19 : decode cX8_hasRest 19 = .ok (.invokevirtual 119, 3) := by decide +kernel
theorem dX8_hasRest_22 : decode cX8_hasRest 22 = .ok (.bipush 7, 2) := by decide +kernel
theorem dX8_hasRest_24 : decode cX8_hasRest 24 = .ok (.if_icmp .ne 7, 3) := by decide +kernel
theorem dX8_hasRest_27 : decode cX8_hasRest 27 = .ok (.iconst 1, 1) := by decide +kernel
theorem dX8_hasRest_28 : decode cX8_hasRest 28 = .ok (.goto 4, 3) := by decide +kernel
theorem dX8_hasRest_31 : decode cX8_hasRest 31 = .ok (.iconst 0, 1) := by decide +kernel
theorem dX8_hasRest_32 : decode cX8_hasRest 32 = .ok (.ireturn, 1) := by decide +kernel
theorem sp_X8_hasRest {r : Nat} {x : Int32} {B : Bk} {T : Nat → Bool} {K F : Nat → Nat} {D : Mem} (h : RB D B T K F) (hV : VB B) (hx : x = nI r) (hr : r < cm_ B) : Ei 2 j_X8_hasRest [.ref 104, .int x] D (b2i (rsB B r)) (D) := by
  refine E.start 0 (ls := [some (.ref 104), some (.int x)]) (by decide +kernel) (Nat.le_of_ble_eq_true rfl) rfl (Nat.le_refl _) (Nat.le_refl _) ?_
  subst hx
  have hl4 := sgl_le hV hr
  have h0 := h
  have hvs := (hV.2.2 r hr).2.1
  obtain ⟨hB1, hB2, hB3⟩ := h
  have hcm := hV.2.1
  refine X_aload_n (nx := 1) dX8_hasRest_0 rfl rfl rfl ?_
  refine M_getP (nx := 4) dX8_hasRest_1 rfl fl_RX8_31 rfl (by first | assumption | rfl | decide | omega) (by first | assumption | rfl | decide | omega) (by first | assumption | rfl | decide | omega) ?_
  refine X_iload_n (nx := 5) dX8_hasRest_4 rfl rfl rfl ?_
  refine M_ld (a := 112) (L := 10) (nx := 6) dX8_hasRest_5 rfl (by decide) (by decide) rfl (by decide) (by omega) ((hB3 r hr).2.2.2.2.1) ?_
  refine X_if_le (tgt := 31) (nx := 9) dX8_hasRest_6 rfl rfl (fun h6 => ?_) (fun h6 => ?_)
  · skip
    rw [show (0 : Int32) = nI 0 from rfl, nI_leI (by omega) (by omega)] at h6
    refine X_iconst (v := 0) (nx := 32) dX8_hasRest_31 rfl rfl ?_
    exact Y_reti dX8_hasRest_32 (Or.inr ⟨rfl, by first | exact Or.inl rfl | exact Or.inr rfl | exact b2i_01 _ | assumption⟩) (by unfold rsB; rw [rs_iff hvs]; first | (rw [decide_eq_true (show 0 < (sg_ B r).length by omega), decide_eq_true h24]; rfl) | (rw [decide_eq_false (show ¬ 0 < (sg_ B r).length by omega)]; rfl) | (rw [decide_eq_false h24, Bool.and_false]; rfl)) rfl
  · skip
    rw [show (0 : Int32) = nI 0 from rfl, nI_leI (by omega) (by omega)] at h6
    refine X_aload_n (nx := 10) dX8_hasRest_9 rfl rfl rfl ?_
    refine X_iload_n (nx := 11) dX8_hasRest_10 rfl rfl rfl ?_
    refine X_aload_n (nx := 12) dX8_hasRest_11 rfl rfl rfl ?_
    refine M_getP (nx := 15) dX8_hasRest_12 rfl fl_RX8_31 rfl (by first | assumption | rfl | decide | omega) (by first | assumption | rfl | decide | omega) (by first | assumption | rfl | decide | omega) ?_
    refine X_iload_n (nx := 16) dX8_hasRest_15 rfl rfl rfl ?_
    refine M_ld (a := 112) (L := 10) (nx := 17) dX8_hasRest_16 rfl (by decide) (by decide) rfl (by decide) (by omega) ((hB3 r hr).2.2.2.2.1) ?_
    refine X_iconst (v := nI 1) (nx := 18) dX8_hasRest_17 rfl rfl ?_
    refine X_isub (nx := 19) dX8_hasRest_18 rfl ?_
    refine X_top (sub_nI (by omega)) ?_
    refine Y_Vi2 (nx := 22) dX8_hasRest_19 rfl ml_RX8_119 kj_X8_typeOf kv_X8_typeOf (sp_X8_typeOf h0 hV rfl hr rfl (by omega)) (by first | assumption | rfl | decide | omega) (by first | assumption | rfl | decide | omega) (by decide) rfl (by first | decide | omega) (by exact Nat.le_of_ble_eq_true rfl) ?_
    refine X_bipush (v := nI 7) (nx := 24) dX8_hasRest_22 rfl rfl ?_
    refine X_icmp_ne (tgt := 31) (nx := 27) dX8_hasRest_24 rfl rfl (fun h24 => ?_) (fun h24 => ?_)
    · skip
      rw [nI_eq (by have := typ_lt (sg_le hV hr (i := (sg_ B r).length - 1) (by omega)); omega) (by omega), typ_7 (hvs.2.1 _ (getD_in (by omega)))] at h24
      refine X_iconst (v := 0) (nx := 32) dX8_hasRest_31 rfl rfl ?_
      exact Y_reti dX8_hasRest_32 (Or.inr ⟨rfl, by first | exact Or.inl rfl | exact Or.inr rfl | exact b2i_01 _ | assumption⟩) (by unfold rsB; rw [rs_iff hvs]; first | (rw [decide_eq_true (show 0 < (sg_ B r).length by omega), decide_eq_true h24]; rfl) | (rw [decide_eq_false (show ¬ 0 < (sg_ B r).length by omega)]; rfl) | (rw [decide_eq_false h24, Bool.and_false]; rfl)) rfl
    · skip
      rw [nI_eq (by have := typ_lt (sg_le hV hr (i := (sg_ B r).length - 1) (by omega)); omega) (by omega), typ_7 (hvs.2.1 _ (getD_in (by omega)))] at h24
      refine X_iconst (v := 1) (nx := 28) dX8_hasRest_27 rfl rfl ?_
      refine X_goto (tgt := 32) dX8_hasRest_28 rfl ?_
      exact Y_reti dX8_hasRest_32 (Or.inr ⟨rfl, by first | exact Or.inl rfl | exact Or.inr rfl | exact b2i_01 _ | assumption⟩) (by unfold rsB; rw [rs_iff hvs]; first | (rw [decide_eq_true (show 0 < (sg_ B r).length by omega), decide_eq_true h24]; rfl) | (rw [decide_eq_false (show ¬ 0 < (sg_ B r).length by omega)]; rfl) | (rw [decide_eq_false h24, Bool.and_false]; rfl)) rfl
theorem bit_has {w k : Nat} (hw : w < 2147483648) (hk : k < 32) : (nI w >>> (nI k &&& 31)) &&& 1 = b2i (w.testBit k) := by
  rw [bit_n hw hk, tb_mod]
  unfold b2i
  split <;> rfl
theorem dX8_has_0 : decode cX8_has 0 = .ok (.iload_n 0, 1) := by decide +kernel
theorem dX8_has_1 : decode cX8_has 1 = .ok (.iload_n 1, 1) := by decide +kernel
theorem dX8_has_2 : decode cX8_has 2 = .ok (.ishr, 1) := by decide +kernel
theorem dX8_has_3 : decode cX8_has 3 = .ok (.iconst 1, 1) := by decide +kernel
theorem dX8_has_4 : decode cX8_has 4 = .ok (.iand, 1) := by decide +kernel
theorem dX8_has_5 : decode cX8_has 5 = .ok (.iconst 1, 1) := by decide +kernel
theorem dX8_has_6 : decode cX8_has 6 = .ok (.if_icmp .ne 7, 3) := by decide +kernel
theorem dX8_has_9 : decode cX8_has 9 = .ok (.iconst 1, 1) := by decide +kernel
theorem dX8_has_10 : decode cX8_has 10 = .ok (.goto 4, 3) := by decide +kernel
theorem dX8_has_13 : decode cX8_has 13 = .ok (.iconst 0, 1) := by decide +kernel
theorem dX8_has_14 : decode cX8_has 14 = .ok (.ireturn, 1) := by decide +kernel
theorem sp_X8_has {w k : Nat} {x y : Int32} {D : Mem} (hx : x = nI w) (hw : w < 2147483648) (hy : y = nI k) (hk : k < 32) : Ei 1 j_X8_has [.int x, .int y] D (b2i (w.testBit k)) (D) := by
  refine E.start 0 (ls := [some (.int x), some (.int y)]) (by decide +kernel) (Nat.le_of_ble_eq_true rfl) rfl (Nat.le_refl _) (Nat.le_refl _) ?_
  subst hx; subst hy
  refine X_iload_n (nx := 1) dX8_has_0 rfl rfl rfl ?_
  refine X_iload_n (nx := 2) dX8_has_1 rfl rfl rfl ?_
  refine X_ishr (nx := 3) dX8_has_2 rfl ?_
  refine X_iconst (v := 1) (nx := 4) dX8_has_3 rfl rfl ?_
  refine X_iand (nx := 5) dX8_has_4 rfl ?_
  refine X_top (bit_has hw hk) ?_
  refine X_iconst (v := 1) (nx := 6) dX8_has_5 rfl rfl ?_
  refine X_icmp_ne (tgt := 13) (nx := 9) dX8_has_6 rfl rfl (fun h6 => ?_) (fun h6 => ?_)
  · skip
    refine X_iconst (v := 0) (nx := 14) dX8_has_13 rfl rfl ?_
    exact Y_reti dX8_has_14 (Or.inr ⟨rfl, by first | exact Or.inl rfl | exact Or.inr rfl | exact b2i_01 _ | assumption⟩) (by first | (rw [b2i_1.mp h6]; rfl) | exact bF h6) rfl
  · skip
    refine X_iconst (v := 1) (nx := 10) dX8_has_9 rfl rfl ?_
    refine X_goto (tgt := 14) dX8_has_10 rfl ?_
    exact Y_reti dX8_has_14 (Or.inr ⟨rfl, by first | exact Or.inl rfl | exact Or.inr rfl | exact b2i_01 _ | assumption⟩) (by first | (rw [b2i_1.mp h6]; rfl) | exact bF h6) rfl
theorem dX8_orderOf_0 : decode cX8_orderOf 0 = .ok (.iload_n 0, 1) := by decide +kernel
theorem dX8_orderOf_1 : decode cX8_orderOf 1 = .ok (.iconst 1, 1) := by decide +kernel
theorem dX8_orderOf_2 : decode cX8_orderOf 2 = .ok (.if_icmp .ne 7, 3) := by decide +kernel
theorem dX8_orderOf_5 : decode cX8_orderOf 5 = .ok (.iconst 1, 1) := by decide +kernel
theorem dX8_orderOf_6 : decode cX8_orderOf 6 = .ok (.goto 22, 3) := by decide +kernel
theorem dX8_orderOf_9 : decode cX8_orderOf 9 = .ok (.iload_n 0, 1) := by decide +kernel
theorem dX8_orderOf_10 : decode cX8_orderOf 10 = .ok (.iconst 2, 1) := by decide +kernel
theorem dX8_orderOf_11 : decode cX8_orderOf 11 = .ok (.if_icmp .ne 7, 3) := by decide +kernel
theorem dX8_orderOf_14 : decode cX8_orderOf 14 = .ok (.iconst 2, 1) := by decide +kernel
theorem dX8_orderOf_15 : decode cX8_orderOf 15 = .ok (.goto 13, 3) := by decide +kernel
theorem dX8_orderOf_18 : decode cX8_orderOf 18 = .ok (.iload_n 0, 1) := by decide +kernel
theorem dX8_orderOf_19 : decode cX8_orderOf 19 = .ok (.iconst 3, 1) := by decide +kernel
theorem dX8_orderOf_20 : decode cX8_orderOf 20 = .ok (.if_icmp .ne 7, 3) := by decide +kernel
theorem dX8_orderOf_23 : decode cX8_orderOf 23 = .ok (.iconst 3, 1) := by decide +kernel
theorem dX8_orderOf_24 : decode cX8_orderOf 24 = .ok (.goto 4, 3) := by decide +kernel
theorem dX8_orderOf_27 : decode cX8_orderOf 27 = .ok (.iconst 0, 1) := by decide +kernel
theorem dX8_orderOf_28 : decode cX8_orderOf 28 = .ok (.ireturn, 1) := by decide +kernel
theorem sp_X8_orderOf {k : Nat} {x : Int32} {D : Mem} (hx : x = nI k) (hk : k < 6) : Ei 1 j_X8_orderOf [.int x] D (nI (if k = 1 then 1 else if k = 2 then 2 else if k = 3 then 3 else 0)) (D) := by
  refine E.start 0 (ls := [some (.int x)]) (by decide +kernel) (Nat.le_of_ble_eq_true rfl) rfl (Nat.le_refl _) (Nat.le_refl _) ?_
  subst hx
  refine X_iload_n (nx := 1) dX8_orderOf_0 rfl rfl rfl ?_
  refine X_iconst (v := nI 1) (nx := 2) dX8_orderOf_1 rfl rfl ?_
  refine X_icmp_ne (tgt := 9) (nx := 5) dX8_orderOf_2 rfl rfl (fun h2 => ?_) (fun h2 => ?_)
  · skip
    rw [nI_eq (by omega) (by omega)] at h2
    refine X_iload_n (nx := 10) dX8_orderOf_9 rfl rfl rfl ?_
    refine X_iconst (v := nI 2) (nx := 11) dX8_orderOf_10 rfl rfl ?_
    refine X_icmp_ne (tgt := 18) (nx := 14) dX8_orderOf_11 rfl rfl (fun h11 => ?_) (fun h11 => ?_)
    · skip
      rw [nI_eq (by omega) (by omega)] at h11
      refine X_iload_n (nx := 19) dX8_orderOf_18 rfl rfl rfl ?_
      refine X_iconst (v := nI 3) (nx := 20) dX8_orderOf_19 rfl rfl ?_
      refine X_icmp_ne (tgt := 27) (nx := 23) dX8_orderOf_20 rfl rfl (fun h20 => ?_) (fun h20 => ?_)
      · skip
        rw [nI_eq (by omega) (by omega)] at h20
        refine X_iconst (v := 0) (nx := 28) dX8_orderOf_27 rfl rfl ?_
        exact Y_reti dX8_orderOf_28 (Or.inl rfl) (by first | (rw [if_pos h2]; rfl) | (rw [if_neg h2, if_pos h11]; rfl) | (rw [if_neg h2, if_neg h11, if_pos h20]; rfl) | (rw [if_neg h2, if_neg h11, if_neg h20]; rfl)) rfl
      · skip
        rw [nI_eq (by omega) (by omega)] at h20
        refine X_iconst (v := 3) (nx := 24) dX8_orderOf_23 rfl rfl ?_
        refine X_goto (tgt := 28) dX8_orderOf_24 rfl ?_
        exact Y_reti dX8_orderOf_28 (Or.inl rfl) (by first | (rw [if_pos h2]; rfl) | (rw [if_neg h2, if_pos h11]; rfl) | (rw [if_neg h2, if_neg h11, if_pos h20]; rfl) | (rw [if_neg h2, if_neg h11, if_neg h20]; rfl)) rfl
    · skip
      rw [nI_eq (by omega) (by omega)] at h11
      refine X_iconst (v := 2) (nx := 15) dX8_orderOf_14 rfl rfl ?_
      refine X_goto (tgt := 28) dX8_orderOf_15 rfl ?_
      exact Y_reti dX8_orderOf_28 (Or.inl rfl) (by first | (rw [if_pos h2]; rfl) | (rw [if_neg h2, if_pos h11]; rfl) | (rw [if_neg h2, if_neg h11, if_pos h20]; rfl) | (rw [if_neg h2, if_neg h11, if_neg h20]; rfl)) rfl
  · skip
    rw [nI_eq (by omega) (by omega)] at h2
    refine X_iconst (v := 1) (nx := 6) dX8_orderOf_5 rfl rfl ?_
    refine X_goto (tgt := 28) dX8_orderOf_6 rfl ?_
    exact Y_reti dX8_orderOf_28 (Or.inl rfl) (by first | (rw [if_pos h2]; rfl) | (rw [if_neg h2, if_pos h11]; rfl) | (rw [if_neg h2, if_neg h11, if_pos h20]; rfl) | (rw [if_neg h2, if_neg h11, if_neg h20]; rfl)) rfl
theorem dX8_isStrict_0 : decode cX8_isStrict 0 = .ok (.aload_n 0, 1) := by decide +kernel
theorem dX8_isStrict_1 : decode cX8_isStrict 1 = .ok (.getfield 13, 3) := by decide +kernel
theorem dX8_isStrict_4 : decode cX8_isStrict 4 = .ok (.iload_n 1, 1) := by decide +kernel
theorem dX8_isStrict_5 : decode cX8_isStrict 5 = .ok (.iaload, 1) := by decide +kernel
theorem dX8_isStrict_6 : decode cX8_isStrict 6 = .ok (.iconst 4, 1) := by decide +kernel
theorem dX8_isStrict_7 : decode cX8_isStrict 7 = .ok (.if_icmp .eq 13, 3) := by decide +kernel
theorem dX8_isStrict_10 : decode cX8_isStrict 10 = .ok (.aload_n 0, 1) := by decide +kernel
theorem dX8_isStrict_11 : decode cX8_isStrict 11 = .ok (.getfield 13, 3) := by decide +kernel
theorem dX8_isStrict_14 : decode cX8_isStrict 14 = .ok (.iload_n 1, 1) := by decide +kernel
theorem dX8_isStrict_15 : decode cX8_isStrict 15 = .ok (.iaload, 1) := by decide +kernel
theorem dX8_isStrict_16 : decode cX8_isStrict 16 = .ok (.iconst 5, 1) := by decide +kernel
theorem dX8_isStrict_17 : decode cX8_isStrict 17 = .ok (.if_icmp .ne 7, 3) := by decide +kernel
theorem dX8_isStrict_20 : decode cX8_isStrict 20 = .ok (.iconst 1, 1) := by decide +kernel
theorem dX8_isStrict_21 : decode cX8_isStrict 21 = .ok (.goto 4, 3) := by decide +kernel
theorem dX8_isStrict_24 : decode cX8_isStrict 24 = .ok (.iconst 0, 1) := by decide +kernel
theorem dX8_isStrict_25 : decode cX8_isStrict 25 = .ok (.ireturn, 1) := by decide +kernel
theorem sp_X8_isStrict {r : Nat} {x : Int32} {B : Bk} {T : Nat → Bool} {K F : Nat → Nat} {D : Mem} (h : RB D B T K F) (hK : ∀ i, i < 3 → K i ≤ 5) (hx : x = nI r) (hr : r < 3) : Ei 1 j_X8_isStrict [.ref 104, .int x] D (b2i (decide (K r = 4) || decide (K r = 5))) (D) := by
  refine E.start 0 (ls := [some (.ref 104), some (.int x)]) (by decide +kernel) (Nat.le_of_ble_eq_true rfl) rfl (Nat.le_refl _) (Nat.le_refl _) ?_
  subst hx
  have hk5 := hK r hr
  refine X_aload_n (nx := 1) dX8_isStrict_0 rfl rfl rfl ?_
  refine M_getP (nx := 4) dX8_isStrict_1 rfl fl_RX8_13 rfl (by first | assumption | rfl | decide | omega) (by first | assumption | rfl | decide | omega) (by first | assumption | rfl | decide | omega) ?_
  refine X_iload_n (nx := 5) dX8_isStrict_4 rfl rfl rfl ?_
  refine M_ld (a := 106) (L := 3) (nx := 6) dX8_isStrict_5 rfl (by decide) (by decide) rfl (by decide) (by omega) ((h.1 r hr).1) ?_
  refine X_iconst (v := nI 4) (nx := 7) dX8_isStrict_6 rfl rfl ?_
  refine X_icmp_eq (tgt := 20) (nx := 10) dX8_isStrict_7 rfl rfl (fun h7 => ?_) (fun h7 => ?_)
  · skip
    rw [nI_eq (by omega) (by omega)] at h7
    refine X_iconst (v := 1) (nx := 21) dX8_isStrict_20 rfl rfl ?_
    refine X_goto (tgt := 25) dX8_isStrict_21 rfl ?_
    exact Y_reti dX8_isStrict_25 (Or.inr ⟨rfl, by first | exact Or.inl rfl | exact Or.inr rfl | exact b2i_01 _ | assumption⟩) (by first | (rw [decide_eq_true h7]; rfl) | (rw [decide_eq_false h7, decide_eq_true h17]; rfl) | (rw [decide_eq_false h7, decide_eq_false h17]; rfl)) rfl
  · skip
    rw [nI_eq (by omega) (by omega)] at h7
    refine X_aload_n (nx := 11) dX8_isStrict_10 rfl rfl rfl ?_
    refine M_getP (nx := 14) dX8_isStrict_11 rfl fl_RX8_13 rfl (by first | assumption | rfl | decide | omega) (by first | assumption | rfl | decide | omega) (by first | assumption | rfl | decide | omega) ?_
    refine X_iload_n (nx := 15) dX8_isStrict_14 rfl rfl rfl ?_
    refine M_ld (a := 106) (L := 3) (nx := 16) dX8_isStrict_15 rfl (by decide) (by decide) rfl (by decide) (by omega) ((h.1 r hr).1) ?_
    refine X_iconst (v := nI 5) (nx := 17) dX8_isStrict_16 rfl rfl ?_
    refine X_icmp_ne (tgt := 24) (nx := 20) dX8_isStrict_17 rfl rfl (fun h17 => ?_) (fun h17 => ?_)
    · skip
      rw [nI_eq (by omega) (by omega)] at h17
      refine X_iconst (v := 0) (nx := 25) dX8_isStrict_24 rfl rfl ?_
      exact Y_reti dX8_isStrict_25 (Or.inr ⟨rfl, by first | exact Or.inl rfl | exact Or.inr rfl | exact b2i_01 _ | assumption⟩) (by first | (rw [decide_eq_true h7]; rfl) | (rw [decide_eq_false h7, decide_eq_true h17]; rfl) | (rw [decide_eq_false h7, decide_eq_false h17]; rfl)) rfl
    · skip
      rw [nI_eq (by omega) (by omega)] at h17
      refine X_iconst (v := 1) (nx := 21) dX8_isStrict_20 rfl rfl ?_
      refine X_goto (tgt := 25) dX8_isStrict_21 rfl ?_
      exact Y_reti dX8_isStrict_25 (Or.inr ⟨rfl, by first | exact Or.inl rfl | exact Or.inr rfl | exact b2i_01 _ | assumption⟩) (by first | (rw [decide_eq_true h7]; rfl) | (rw [decide_eq_false h7, decide_eq_true h17]; rfl) | (rw [decide_eq_false h7, decide_eq_false h17]; rfl)) rfl
