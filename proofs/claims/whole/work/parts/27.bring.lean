/-! THE STATE of both sides, and what the class's cells hold of it -/
/-- book, kept book, whether an image is there, told signs, row, refusals -/
abbrev St := Bk × Bk × Bool × List Nat × List Nat × (Nat → Int32)
def bk (S : St) : Bk := S.1
def kp (S : St) : Bk := S.2.1
def im (S : St) : Bool := S.2.2.1
def tl (S : St) : List Nat := S.2.2.2.1
def rw_ (S : St) : List Nat := S.2.2.2.2.1
def rf (S : St) : Nat → Int32 := S.2.2.2.2.2
def inC (b : Nat) : Prop := b < 104
def inS (b : Nat) : Prop := b = 79 ∨ (92 ≤ b ∧ b ≤ 95) ∨ (100 ≤ b ∧ b ≤ 102)
/-- no parameter twice -/
def PDs (s : List Nat) : Prop := ∀ j k, j < k → k < s.length → 10 ≤ s.getD j 0 → s.getD j 0 < 40 → 10 ≤ s.getD k 0 → s.getD k 0 < 40 → s.getD j 0 % 10 ≠ s.getD k 0 % 10
def PDB (B : Bk) : Prop := ∀ i, i < cm_ B → PDs (sg_ B i)
def IVb (D : Mem) (S : St) : Prop := Enc D 1 (bk S) ∧ VB (bk S) ∧ (im S = true → Enc D 53 (kp S) ∧ VB (kp S)) ∧ ZB D 1 ∧ ZB D 27 ∧ ZB D 53 ∧ PDB (bk S) ∧ (im S = true → PDB (kp S))
def IVs (D : Mem) (S : St) : Prop := D 0 9 = b2i (im S) ∧ PIL D 96 (tl S) ∧ PIL D 98 (rw_ S) ∧ (∀ i, 1 ≤ i → i < 7 → D 103 i = rf S i) ∧ (∀ x ∈ tl S, x < 256) ∧ (∀ x ∈ rw_ S, x < 100)
def IVt (D : Mem) (B : Bk) (K F : Nat → Nat) : Prop := TE D B (nlG B 10) (PSf B) (ENf B) (RSf B) (MNf B) (SVf B) (fun r => thN B r && mtB B r) ∧ (∀ i, i < 3 → D 89 i = nI (K i) ∧ D 90 i = nI (F i) ∧ K i ≤ 5 ∧ F i ≤ 9) ∧ (∀ x, x < 3 → D 91 x = opI (wy B 2 x)) ∧ D 95 0 = 0
def INVK (D : Mem) (S : St) (K F : Nat → Nat) : Prop := IVb D S ∧ IVs D S ∧ IVt D (bk S) K F
abbrev INV1 (D : Mem) (S : St) : Prop := INVK D S (kd_ (bk S)) (fg_ (bk S))
theorem IVb.fr {D D' : Mem} {S : St} (h : IVb D S) (hf : ∀ b, 1 ≤ b → b ≤ 78 → D' b = D b) : IVb D' S := by
  obtain ⟨h1, h2, h3, h4, h5, h6, h7⟩ := h
  have hr : ∀ i, i < 10 → ∀ b, b = 1 ∨ b = 27 ∨ b = 53 → D' (rt b i) = D (rt b i) := fun i hi b hb => hf _ (by unfold rt; omega) (by unfold rt; omega)
  exact ⟨h1.fr (fun x hx => hf x (by unfold inB at hx; omega) (by unfold inB at hx; omega)), h2, fun q => ⟨(h3 q).1.fr (fun x hx => hf x (by unfold inB at hx; omega) (by unfold inB at hx; omega)), (h3 q).2⟩, fun i hi => by rw [hr i hi 1 (by omega)]; exact h4 i hi, fun i hi => by rw [hr i hi 27 (by omega)]; exact h5 i hi, fun i hi => by rw [hr i hi 53 (by omega)]; exact h6 i hi, h7⟩
theorem IVs.fr {D D' : Mem} {S : St} (h : IVs D S) (h0 : D' 0 = D 0) (hf : ∀ b, 96 ≤ b → b ≤ 99 → D' b = D b) (h3 : D' 103 = D 103) : IVs D' S := by
  obtain ⟨g1, g2, g3, g4, g5, g6⟩ := h
  exact ⟨by rw [h0]; exact g1, g2.fr (hf 96 (by omega) (by omega)) (hf 97 (by omega) (by omega)), g3.fr (hf 98 (by omega) (by omega)) (hf 99 (by omega) (by omega)), by rw [h3]; exact g4, g5, g6⟩
theorem IVt.fr {D D' : Mem} {B : Bk} {K F : Nat → Nat} (h : IVt D B K F) (hf : ∀ b, 80 ≤ b → b ≤ 91 → D' b = D b) (h0 : D' 95 0 = D 95 0) : IVt D' B K F := by
  obtain ⟨g1, g2, g3, g4⟩ := h
  exact ⟨g1.fr (fun b q1 q2 => hf b (by omega) (by omega)) (by rw [hf 80 (by omega) (by omega)]), by rw [hf 89 (by omega) (by omega), hf 90 (by omega) (by omega)]; exact g2, by rw [hf 91 (by omega) (by omega)]; exact g3, h0.trans g4⟩
theorem INVK.fr {D D' : Mem} {S : St} {K F : Nat → Nat} (h : INVK D S K F) (hf : Fr inS D D') (h0 : D' 95 0 = D 95 0) : INVK D' S K F :=
  ⟨h.1.fr (fun b _ _ => hf b (by unfold inS; omega)), h.2.1.fr (hf 0 (by unfold inS; omega)) (fun b _ _ => hf b (by unfold inS; omega)) (hf 103 (by unfold inS; omega)), h.2.2.fr (fun b _ _ => hf b (by unfold inS; omega)) h0⟩
theorem Fr.sc {D D' : Mem} (h : Fr inS D D') : Fr inC D D' := h.mono (fun b hb => by unfold inS at hb; unfold inC; omega)
/-- what a path and a verb bring, and how many nodes were looked at -/
def mt (B : Bk) (w v p : Nat) (K F : Nat → Nat) : LR := lk B w v (pathL p) K F 7 (0, []) 0 []
def mtE (B : Bk) (w v p : Nat) (K F : Nat → Nat) : Option Nat := (mt B w v p K F).1.map (fun z => z.1)
def cn (P : Nat → Bool) (n : Nat) : Nat := sumN (fun p => if P p = true then 1 else 0) n
theorem cn_s (P : Nat → Bool) (n : Nat) : cn P (n + 1) = cn P n + (if P n = true then 1 else 0) := rfl
def BRG (D : Mem) (S : St) (K F : Nat → Nat) (w v p : Nat) (u : Int32) (D' : Mem) : Prop :=
  INVK D' S K F ∧ Fr inS D D' ∧ (∀ x, 9 ≤ x → D' 79 x = D 79 x) ∧ u = opI (mtE (bk S) w v p K F) ∧ D' 79 6 = nI (mt (bk S) w v p K F).2 ∧ (∀ e ml t, (mt (bk S) w v p K F).1 = some (e, ml, t) → D' 79 7 = nI ml.length ∧ D' 79 8 = nI t ∧ TR D' ml ∧ ml.length ≤ 2 ∧ e < 10) ∧ LET D' 92 (pathL p)
theorem BRG.lt {D D' : Mem} {S : St} {K F : Nat → Nat} {w v p : Nat} {u : Int32} (h : BRG D S K F w v p u D') {e : Nat} (he : mtE (bk S) w v p K F = some e) : e < 10 := by
  unfold mtE at he
  cases hm : (mt (bk S) w v p K F).1 with
  | none => rw [hm] at he; cases he
  | some z =>
    obtain ⟨e2, ml, t⟩ := z
    rw [hm] at he
    cases he
    exact (h.2.2.2.2.2.1 _ _ _ hm).2.2.2.2
theorem brg_wk {S : St} {K F : Nat → Nat} {w v p : Nat} {D D5 : Mem} (h : INVK D S K F) (hv : v < 4) (hw : w < 1024) (h1 : LET D5 92 (pathL p)) (h2 : Fr (fun b => b = 92 ∨ b = 93) D D5) : WK_ (up2 (up2 (up2 D5 79 4 (nI v)) 79 5 (nI w)) 79 6 0) (bk S) K F (pathL p) w v := by
  have hf : Fr (fun b => b = 79 ∨ b = 92 ∨ b = 93) D (up2 (up2 (up2 D5 79 4 (nI v)) 79 5 (nI w)) 79 6 0) := (h2.mono (fun b hb => Or.inr hb)).tr (((Fr.up (Or.inl rfl)).tr (Fr.up (Or.inl rfl))).tr (Fr.up (Or.inl rfl)))
  have h0 := h.2.2.fr (D' := up2 (up2 (up2 D5 79 4 (nI v)) 79 5 (nI w)) 79 6 0) (fun b _ _ => hf b (by omega)) (by rw [hf 95 (by omega)])
  refine ⟨h0.1, h0.2.1, h1.fr ?_ ?_, ?_, hw, ?_, hv⟩
  · rw [up2_ne (by omega), up2_ne (by omega), up2_ne (by omega)]
  · rw [up2_ne (by omega), up2_ne (by omega), up2_ne (by omega)]
  · rw [up2_other (by omega)]; exact up2_same
  · rw [up2_other (by omega), up2_other (by omega)]; exact up2_same
theorem brg_of {S : St} {K F : Nat → Nat} {w v p : Nat} {D D5 D' : Mem} {u : Int32} (h : INVK D S K F) (h1 : LET D5 92 (pathL p)) (h2 : Fr (fun b => b = 92 ∨ b = 93) D D5) (g : WR (up2 (up2 (up2 D5 79 4 (nI v)) 79 5 (nI w)) 79 6 0) D' [] u (lk (bk S) w v (pathL p) K F 7 (0, []) 0 [])) : BRG D S K F w v p u D' := by
  obtain ⟨a1, a2, a3, a4, a5, a6, a7⟩ := g
  have hf : Fr (fun b => b = 79 ∨ b = 92 ∨ b = 93) D (up2 (up2 (up2 D5 79 4 (nI v)) 79 5 (nI w)) 79 6 0) := (h2.mono (fun b hb => Or.inr hb)).tr (((Fr.up (Or.inl rfl)).tr (Fr.up (Or.inl rfl))).tr (Fr.up (Or.inl rfl)))
  have hF : Fr inS D D' := (hf.mono (fun b hb => by unfold inS; omega)).tr (a7.mono (fun b hb => by unfold inW at hb; unfold inS; omega))
  refine ⟨h.fr hF (a5.trans (by rw [hf 95 (by omega)])), hF, fun x hx => ?_, a1, ?_, a3, h1.fr ?_ ?_⟩
  · rw [a6 x (by omega) (by omega) (by omega), up2_other (by omega), up2_other (by omega), up2_other (by omega), h2 79 (by omega)]
  · rw [a2, up2_same]; exact Int32.zero_add _
  · rw [a7 92 (by unfold inW; omega), up2_ne (by omega), up2_ne (by omega), up2_ne (by omega)]
  · rw [a7 93 (by unfold inW; omega), up2_ne (by omega), up2_ne (by omega), up2_ne (by omega)]
theorem dX6_bring_0 : decode cX6_bring 0 = .ok (.iload_n 1, 1) := by decide +kernel
theorem dX6_bring_1 : decode cX6_bring 1 = .ok (.aload_n 0, 1) := by decide +kernel
theorem dX6_bring_2 : decode cX6_bring 2 = .ok (.getfield 23, 3) := by decide +kernel
theorem dX6_bring_5 : decode cX6_bring 5 = .ok (.invokestatic 34, 3) := by decide +kernel
theorem dX6_bring_8 : decode cX6_bring 8 = .ok (.aload_n 0, 1) := by decide +kernel
theorem dX6_bring_9 : decode cX6_bring 9 = .ok (.iload_n 2, 1) := by decide +kernel
theorem dX6_bring_10 : decode cX6_bring 10 = .ok (.putfield 40, 3) := by decide +kernel
theorem dX6_bring_13 : decode cX6_bring 13 = .ok (.aload_n 0, 1) := by decide +kernel
theorem dX6_bring_14 : decode cX6_bring 14 = .ok (.iload_n 3, 1) := by decide +kernel
theorem dX6_bring_15 : decode cX6_bring 15 = .ok (.putfield 44, 3) := by decide +kernel
theorem dX6_bring_18 : decode cX6_bring 18 = .ok (.aload_n 0, 1) := by decide +kernel
theorem dX6_bring_19 : decode cX6_bring 19 = .ok (.iconst 0, 1) := by decide +kernel
theorem dX6_bring_20 : decode cX6_bring 20 = .ok (.putfield 47, 3) := by decide +kernel
theorem dX6_bring_23 : decode cX6_bring 23 = .ok (.aload_n 0, 1) := by decide +kernel
theorem dX6_bring_24 : decode cX6_bring 24 = .ok (.iconst 0, 1) := by decide +kernel
theorem dX6_bring_25 : decode cX6_bring 25 = .ok (.iconst 0, 1) := by decide +kernel
theorem dX6_bring_26 : decode cX6_bring 26 = .ok (.iconst 0, 1) := by decide +kernel
theorem dX6_bring_27 : decode cX6_bring 27 = .ok (.iconst 0, 1) := by decide +kernel
theorem dX6_bring_28 : decode cX6_bring 28 = .ok (.invokevirtual 50, 3) := by decide +kernel
theorem dX6_bring_31 : decode cX6_bring 31 = .ok (.ireturn, 1) := by decide +kernel
theorem sp_X6_bring {S : St} {K F : Nat → Nat} {w v p : Nat} {x y z : Int32} {D : Mem} (h : INVK D S K F) (hx : x = nI p) (hp : p < 341) (hy : y = nI v) (hv : v < 4) (hz : z = nI w) (hw : w < 1024) : Rix 20 j_X6_bring [.ref 79, .int x, .int y, .int z] D (fun u D' => BRG D S K F w v p u D') := by
  refine E.start 0 (ls := [some (.ref 79), some (.int x), some (.int y), some (.int z)]) (by decide +kernel) (Nat.le_of_ble_eq_true rfl) rfl (Nat.le_refl _) (Nat.le_refl _) ?_
  subst hx; subst hy; subst hz
  refine X_iload_n (nx := 1) dX6_bring_0 rfl rfl rfl ?_
  refine X_aload_n (nx := 2) dX6_bring_1 rfl rfl rfl ?_
  refine M_getP (nx := 5) dX6_bring_2 rfl fl_RX6_23 rfl (by first | assumption | rfl | decide | omega) (by first | assumption | rfl | decide | omega) (by first | assumption | rfl | decide | omega) ?_
  refine Z_Sv2 (nx := 8) dX6_bring_5 rfl ml_RX6_34 kj_X1_read ks_X1_read (sp_X1_read (Or.inl rfl) rfl hp) (by first | decide | omega) (by exact Nat.le_of_ble_eq_true rfl) (fun D5 g5 => ?_)
  have hk := brg_wk h hv hw g5.1 g5.2
  refine X_aload_n (nx := 9) dX6_bring_8 rfl rfl rfl ?_
  refine X_iload_n (nx := 10) dX6_bring_9 rfl rfl rfl ?_
  refine M_putI (nx := 13) dX6_bring_10 rfl fl_RX6_40 rfl rfl (by first | assumption | rfl | decide | omega) (by first | assumption | rfl | decide | omega) ?_
  refine X_aload_n (nx := 14) dX6_bring_13 rfl rfl rfl ?_
  refine X_iload_n (nx := 15) dX6_bring_14 rfl rfl rfl ?_
  refine M_putI (nx := 18) dX6_bring_15 rfl fl_RX6_44 rfl rfl (by first | assumption | rfl | decide | omega) (by first | assumption | rfl | decide | omega) ?_
  refine X_aload_n (nx := 19) dX6_bring_18 rfl rfl rfl ?_
  refine X_iconst (v := 0) (nx := 20) dX6_bring_19 rfl rfl ?_
  refine M_putI (nx := 23) dX6_bring_20 rfl fl_RX6_47 rfl rfl (by first | assumption | rfl | decide | omega) (by first | assumption | rfl | decide | omega) ?_
  refine X_aload_n (nx := 24) dX6_bring_23 rfl rfl rfl ?_
  refine X_iconst (v := nI 0) (nx := 25) dX6_bring_24 rfl rfl ?_
  refine X_iconst (v := nI 0) (nx := 26) dX6_bring_25 rfl rfl ?_
  refine X_iconst (v := nI 0) (nx := 27) dX6_bring_26 rfl rfl ?_
  refine X_iconst (v := nI 0) (nx := 28) dX6_bring_27 rfl rfl ?_
  refine Z_Vi4 (nx := 31) dX6_bring_28 rfl ml_RX6_50 kj_X6_look kv_X6_look (LK_7 h.1.2.1 _ 0 0 [] 0 (0, []) rfl hk (by have := hk.1.2.1.1; omega) (hk.1.2.1.2.2.1 0 (by omega)) (Nat.zero_le _) (Nat.zero_le _) (by decide) (fun i hi => absurd hi (Nat.not_lt_zero _))) (by first | assumption | rfl | decide | omega) (by first | assumption | rfl | decide | omega) (by decide) rfl (by first | decide | omega) (by exact Nat.le_of_ble_eq_true rfl) (fun u28 D28 g28 => ?_)
  exact Z_reti dX6_bring_31 (Or.inl rfl) (brg_of h g5.1 g5.2 g28)
def BRA (D : Mem) (S : St) (K F : Nat → Nat) (w v n : Nat) (D' : Mem) : Prop := INVK D' S K F ∧ Fr inS D D' ∧ D' 79 9 = nI (cn (fun p => (mtE (bk S) w v p K F).isSome) n) ∧ D' 79 10 = nI (sumN (fun p => (mt (bk S) w v p K F).2) n)
theorem inS_79 : inS 79 := Or.inl rfl
theorem INVK.up {D : Mem} {S : St} {K F : Nat → Nat} {i : Nat} {x : Int32} (h : INVK D S K F) : INVK (up2 D 79 i x) S K F := h.fr (Fr.up inS_79) (up2_other (by omega))
theorem bra_s {S : St} {K F : Nat → Nat} {w v n : Nat} {D D1 D2 : Mem} {u x y : Int32} (h : BRA D S K F w v n D1) (g : BRG D1 S K F w v n u D2) (hx : x = D2 79 9 + (if 0 ≤ u then 1 else 0)) (hy : y = D2 79 10 + D2 79 6) : BRA D S K F w v (n + 1) (up2 (up2 D2 79 9 x) 79 10 y) := by
  obtain ⟨a1, a2, a3, a4⟩ := h
  obtain ⟨b1, b2, b3, b4, b5, b6, b7⟩ := g
  subst hx; subst hy
  refine ⟨b1.up.up, ((a2.tr b2).tr (Fr.up inS_79)).tr (Fr.up inS_79), ?_, ?_⟩
  · rw [up2_other (by omega), up2_same, b3 9 (by omega), a3, cn_s]
    cases hm : mtE (bk S) w v n K F with
    | none =>
      rw [b4, hm, if_neg (by decide), if_neg (by decide)]
      exact Int32.add_zero _
    | some k =>
      have := BRG.lt ⟨b1, b2, b3, b4, b5, b6, b7⟩ hm
      have h0 : (0 : Int32) ≤ opI (some k) := show nI 0 ≤ nI k from nI_le (Nat.zero_le k) (by omega)
      rw [b4, hm, if_pos h0, if_pos (show (some k).isSome = true from rfl)]
      exact nI_1 _
  · rw [up2_same, b3 10 (by omega), a4, b5]
    exact nI_add _ _
theorem up2_comm {D : Mem} {i k : Nat} {x y : Int32} (h : i ≠ k) : up2 (up2 D 79 i x) 79 k y = up2 (up2 D 79 k y) 79 i x := by
  funext a b
  by_cases h1 : a = 79 ∧ b = k
  · obtain ⟨rfl, rfl⟩ := h1
    rw [up2_same, up2_other (by omega), up2_same]
  · rw [up2_other h1]
    by_cases h2 : a = 79 ∧ b = i
    · obtain ⟨rfl, rfl⟩ := h2
      rw [up2_same, up2_same]
    · rw [up2_other h2, up2_other h2, up2_other h1]
theorem up2_id {D : Mem} {a i : Nat} {x : Int32} (h : D a i = x) : up2 D a i x = D := by
  subst h
  funext b k
  by_cases h1 : b = a ∧ k = i
  · obtain ⟨rfl, rfl⟩ := h1
    exact up2_same
  · exact up2_other h1
theorem dX6_bringAll_0 : decode cX6_bringAll 0 = .ok (.aload_n 0, 1) := by decide +kernel
theorem dX6_bringAll_1 : decode cX6_bringAll 1 = .ok (.iconst 0, 1) := by decide +kernel
theorem dX6_bringAll_2 : decode cX6_bringAll 2 = .ok (.putfield 54, 3) := by decide +kernel
theorem dX6_bringAll_5 : decode cX6_bringAll 5 = .ok (.aload_n 0, 1) := by decide +kernel
theorem dX6_bringAll_6 : decode cX6_bringAll 6 = .ok (.iconst 0, 1) := by decide +kernel
theorem dX6_bringAll_7 : decode cX6_bringAll 7 = .ok (.putfield 57, 3) := by decide +kernel
theorem dX6_bringAll_10 : decode cX6_bringAll 10 = .ok (.iconst 0, 1) := by decide +kernel
theorem dX6_bringAll_11 : decode cX6_bringAll 11 = .ok (.istore_n 3, 1) := by decide +kernel
theorem dX6_bringAll_12 : decode cX6_bringAll 12 = .ok (.iload_n 3, 1) := by decide +kernel
theorem dX6_bringAll_13 : decode cX6_bringAll 13 = .ok (.sipush 341, 3) := by decide +kernel
theorem dX6_bringAll_16 : decode cX6_bringAll 16 = .ok (.if_icmp .ge 42, 3) := by decide +kernel
theorem dX6_bringAll_19 : decode cX6_bringAll 19 = .ok (.aload_n 0, 1) := by decide +kernel
theorem dX6_bringAll_20 : decode cX6_bringAll 20 = .ok (.iload_n 3, 1) := by decide +kernel
theorem dX6_bringAll_21 : decode cX6_bringAll 21 = .ok (.iload_n 1, 1) := by decide +kernel
theorem dX6_bringAll_22 : decode cX6_bringAll 22 = .ok (.iload_n 2, 1) := by decide +kernel
theorem dX6_bringAll_23 : decode cX6_bringAll 23 = .ok (.invokevirtual 60, 3) := by decide +kernel
theorem dX6_bringAll_26 : decode cX6_bringAll 26 = .ok (.ifCond .lt 13, 3) := by decide +kernel
theorem dX6_bringAll_29 : decode cX6_bringAll 29 = .ok (.aload_n 0, 1) := by decide +kernel
theorem dX6_bringAll_30 : decode cX6_bringAll 30 = .ok (.dup, 1) := by decide +kernel
theorem dX6_bringAll_31 : decode cX6_bringAll 31 = .ok (.getfield 54, 3) := by decide +kernel
theorem dX6_bringAll_34 : decode cX6_bringAll 34 = .ok (.iconst 1, 1) := by decide +kernel
theorem dX6_bringAll_35 : decode cX6_bringAll 35 = .ok (.iadd, 1) := by decide +kernel
theorem dX6_bringAll_36 : decode cX6_bringAll 36 = .ok (.putfield 54, 3) := by decide +kernel
theorem dX6_bringAll_39 : decode cX6_bringAll 39 = .ok (.aload_n 0, 1) := by decide +kernel
theorem dX6_bringAll_40 : decode cX6_bringAll 40 = .ok (.dup, 1) := by decide +kernel
theorem dX6_bringAll_41 : decode cX6_bringAll 41 = .ok (.getfield 57, 3) := by decide +kernel
theorem dX6_bringAll_44 : decode cX6_bringAll 44 = .ok (.aload_n 0, 1) := by decide +kernel
theorem dX6_bringAll_45 : decode cX6_bringAll 45 = .ok (.getfield 47, 3) := by decide +kernel
theorem dX6_bringAll_48 : decode cX6_bringAll 48 = .ok (.iadd, 1) := by decide +kernel
theorem dX6_bringAll_49 : decode cX6_bringAll 49 = .ok (.putfield 57, 3) := by decide +kernel
theorem dX6_bringAll_52 : decode cX6_bringAll 52 = .ok (.iinc 3 1, 3) := by decide +kernel
theorem dX6_bringAll_55 : decode cX6_bringAll 55 = .ok (.goto (-43), 3) := by decide +kernel
theorem dX6_bringAll_58 : decode cX6_bringAll 58 = .ok (.return_, 1) := by decide +kernel
theorem lp_bringAll {S : St} {K F : Nat → Nat} {w v : Nat} {D : Mem} (hv : v < 4) (hw : w < 1024) : ∀ (m : Nat) (i : Nat) (D1 : Mem), i + m = 341 → BRA D S K F w v i D1 → X 21 138 j_X6_bringAll 12 [some (.ref 79), some (.int (nI v)), some (.int (nI w)), some (.int (nI i))] [] (138, P0, D1) (fun x σ => ∃ (D' : Mem), x = [] ∧ σ = wd D' ∧ BRA D S K F w v 341 D') := by
  intro m
  induction m with
  | zero =>
    intro i D1 hi h
    refine X_iload_n (nx := 13) dX6_bringAll_12 rfl rfl rfl ?_
    refine X_sipush (v := nI 341) (nx := 16) dX6_bringAll_13 rfl rfl ?_
    refine X_icmp_ge (tgt := 58) (nx := 19) dX6_bringAll_16 rfl rfl (fun h16 => ?_) (fun h16 => ?_)
    · skip
      exact Z_retv dX6_bringAll_58 rfl (by have e : i = 341 := (by omega); exact e ▸ h)
    · exact absurd h16 (fun q => q (nI_le (by omega) (by omega)))
  | succ m ih =>
    intro i D1 hi h
    refine X_iload_n (nx := 13) dX6_bringAll_12 rfl rfl rfl ?_
    refine X_sipush (v := nI 341) (nx := 16) dX6_bringAll_13 rfl rfl ?_
    refine X_icmp_ge (tgt := 58) (nx := 19) dX6_bringAll_16 rfl rfl (fun h16 => ?_) (fun h16 => ?_)
    · exact absurd h16 (nI_ge (by omega) (by omega))
    · skip
      refine X_aload_n (nx := 20) dX6_bringAll_19 rfl rfl rfl ?_
      refine X_iload_n (nx := 21) dX6_bringAll_20 rfl rfl rfl ?_
      refine X_iload_n (nx := 22) dX6_bringAll_21 rfl rfl rfl ?_
      refine X_iload_n (nx := 23) dX6_bringAll_22 rfl rfl rfl ?_
      refine Z_Vi3 (nx := 26) dX6_bringAll_23 rfl ml_RX6_60 kj_X6_bring kv_X6_bring (sp_X6_bring h.1 rfl (by omega) rfl hv rfl hw) (by first | assumption | rfl | decide | omega) (by first | assumption | rfl | decide | omega) (by decide) rfl (by first | decide | omega) (by exact Nat.le_of_ble_eq_true rfl) (fun u23 D23 g23 => ?_)
      refine X_if_lt (tgt := 39) (nx := 29) dX6_bringAll_26 rfl rfl (fun h26 => ?_) (fun h26 => ?_)
      · skip
        refine X_aload_n (nx := 40) dX6_bringAll_39 rfl rfl rfl ?_
        refine X_dup (nx := 41) dX6_bringAll_40 rfl rfl ?_
        refine M_getI (nx := 44) dX6_bringAll_41 rfl fl_RX6_57 rfl (by first | assumption | rfl | decide | omega) (by first | assumption | rfl | decide | omega) ?_
        refine X_aload_n (nx := 45) dX6_bringAll_44 rfl rfl rfl ?_
        refine M_getI (nx := 48) dX6_bringAll_45 rfl fl_RX6_47 rfl (by first | assumption | rfl | decide | omega) (by first | assumption | rfl | decide | omega) ?_
        refine X_iadd (nx := 49) dX6_bringAll_48 rfl ?_
        refine M_putI (nx := 52) dX6_bringAll_49 rfl fl_RX6_57 rfl rfl (by first | assumption | rfl | decide | omega) (by first | assumption | rfl | decide | omega) ?_
        refine X_iinc (nx := 55) dX6_bringAll_52 rfl (by decide) rfl (by first | exact ii1 _ | rfl) rfl (st_s (st_s (st_s (st_0)))) ?_
        refine X_goto (tgt := 12) dX6_bringAll_55 rfl ?_
        first
          | exact ih (i + 1) _ (by omega) (bra_s h g23 (by first | (rw [if_pos (Int32.not_lt.mp h26)]; done) | (rw [if_pos (Int32.not_lt.mp h26)]; rfl)) (by rw [up2_other (by omega), up2_other (by omega)]))
          | (rw [← up2_id (D := D23) (a := 79) (i := 9) rfl]
             exact ih (i + 1) _ (by omega) (bra_s h g23 (by rw [if_neg (Int32.not_le.mpr h26)]; exact (Int32.add_zero _).symm) (by rw [up2_other (by omega), up2_other (by omega)])))
      · skip
        refine X_aload_n (nx := 30) dX6_bringAll_29 rfl rfl rfl ?_
        refine X_dup (nx := 31) dX6_bringAll_30 rfl rfl ?_
        refine M_getI (nx := 34) dX6_bringAll_31 rfl fl_RX6_54 rfl (by first | assumption | rfl | decide | omega) (by first | assumption | rfl | decide | omega) ?_
        refine X_iconst (v := 1) (nx := 35) dX6_bringAll_34 rfl rfl ?_
        refine X_iadd (nx := 36) dX6_bringAll_35 rfl ?_
        refine M_putI (nx := 39) dX6_bringAll_36 rfl fl_RX6_54 rfl rfl (by first | assumption | rfl | decide | omega) (by first | assumption | rfl | decide | omega) ?_
        refine X_aload_n (nx := 40) dX6_bringAll_39 rfl rfl rfl ?_
        refine X_dup (nx := 41) dX6_bringAll_40 rfl rfl ?_
        refine M_getI (nx := 44) dX6_bringAll_41 rfl fl_RX6_57 rfl (by first | assumption | rfl | decide | omega) (by first | assumption | rfl | decide | omega) ?_
        refine X_aload_n (nx := 45) dX6_bringAll_44 rfl rfl rfl ?_
        refine M_getI (nx := 48) dX6_bringAll_45 rfl fl_RX6_47 rfl (by first | assumption | rfl | decide | omega) (by first | assumption | rfl | decide | omega) ?_
        refine X_iadd (nx := 49) dX6_bringAll_48 rfl ?_
        refine M_putI (nx := 52) dX6_bringAll_49 rfl fl_RX6_57 rfl rfl (by first | assumption | rfl | decide | omega) (by first | assumption | rfl | decide | omega) ?_
        refine X_iinc (nx := 55) dX6_bringAll_52 rfl (by decide) rfl (by first | exact ii1 _ | rfl) rfl (st_s (st_s (st_s (st_0)))) ?_
        refine X_goto (tgt := 12) dX6_bringAll_55 rfl ?_
        first
          | exact ih (i + 1) _ (by omega) (bra_s h g23 (by first | (rw [if_pos (Int32.not_lt.mp h26)]; done) | (rw [if_pos (Int32.not_lt.mp h26)]; rfl)) (by rw [up2_other (by omega), up2_other (by omega)]))
          | (rw [← up2_id (D := D23) (a := 79) (i := 9) rfl]
             exact ih (i + 1) _ (by omega) (bra_s h g23 (by rw [if_neg (Int32.not_le.mpr h26)]; exact (Int32.add_zero _).symm) (by rw [up2_other (by omega), up2_other (by omega)])))
theorem sp_X6_bringAll {S : St} {K F : Nat → Nat} {w v : Nat} {y z : Int32} {D : Mem} (h : INVK D S K F) (hy : y = nI v) (hv : v < 4) (hz : z = nI w) (hw : w < 1024) : Rvx 21 j_X6_bringAll [.ref 79, .int y, .int z] D (fun D' => BRA D S K F w v 341 D') := by
  refine E.start 1 (ls := [some (.ref 79), some (.int y), some (.int z), none]) (by decide +kernel) (Nat.le_of_ble_eq_true rfl) rfl (Nat.le_refl _) (Nat.le_refl _) ?_
  subst hy; subst hz
  refine X_aload_n (nx := 1) dX6_bringAll_0 rfl rfl rfl ?_
  refine X_iconst (v := 0) (nx := 2) dX6_bringAll_1 rfl rfl ?_
  refine M_putI (nx := 5) dX6_bringAll_2 rfl fl_RX6_54 rfl rfl (by first | assumption | rfl | decide | omega) (by first | assumption | rfl | decide | omega) ?_
  refine X_aload_n (nx := 6) dX6_bringAll_5 rfl rfl rfl ?_
  refine X_iconst (v := 0) (nx := 7) dX6_bringAll_6 rfl rfl ?_
  refine M_putI (nx := 10) dX6_bringAll_7 rfl fl_RX6_57 rfl rfl (by first | assumption | rfl | decide | omega) (by first | assumption | rfl | decide | omega) ?_
  refine X_iconst (v := nI 0) (nx := 11) dX6_bringAll_10 rfl rfl ?_
  refine X_istore_n (i := 3) (nx := 12) dX6_bringAll_11 rfl rfl (by decide) rfl (st_s (st_s (st_s (st_0)))) ?_
  exact lp_bringAll hv hw 341 0 _ rfl ⟨h.up.up, (Fr.up inS_79).tr (Fr.up inS_79), by rw [up2_other (by omega), up2_same]; rfl, by rw [up2_same]; rfl⟩
