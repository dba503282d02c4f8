/-! CALLS THAT CHANGE -/
def setK (B : Bk) (R k f : Nat) : Bk := (fun i => if i = R then k else kd_ B i, fun i => if i = R then f else fg_ B i, cm_ B, th_ B, ro_ B, vb_ B, mo_ B, sg_ B)
def setV (B : Bk) (r v : Nat) : Bk := (kd_ B, fg_ B, cm_ B, th_ B, ro_ B, fun i => if i = r then nI v else vb_ B i, mo_ B, sg_ B)
def setT (B : Bk) (r : Nat) : Bk := (kd_ B, fg_ B, cm_ B, fun i => if i = r then false else th_ B i, ro_ B, vb_ B, mo_ B, sg_ B)
def addB (B : Bk) (R : Nat) (v m : Int32) (s : List Nat) : Bk := (kd_ B, fg_ B, cm_ B + 1, fun i => if i = cm_ B then true else th_ B i, fun i => if i = cm_ B then R else ro_ B i, fun i => if i = cm_ B then v else vb_ B i, fun i => if i = cm_ B then m else mo_ B i, fun i => if i = cm_ B then s else sg_ B i)
theorem enc_K {D : Mem} {b : Nat} {B : Bk} {R k f : Nat} (hb : isB b) (h : Enc D b B) (hR : R < 3) : Enc (up2 (up2 D (b + 1) R (nI k)) (b + 2) R (nI f)) b (setK B R k f) := by
  obtain ⟨h1, h2, h3, h4⟩ := h
  refine ⟨fun i hi => ⟨?_, ?_⟩, ?_, h3, fun i hi => (h4 i hi).fr ?_ ?_⟩
  · show _ = nI (if i = R then k else kd_ B i)
    rw [up2_other (by omega)]
    by_cases e : i = R
    · subst e; rw [if_pos rfl, up2_same]
    · rw [if_neg e, up2_other (by omega), (h1 i hi).1]
  · show _ = nI (if i = R then f else fg_ B i)
    by_cases e : i = R
    · subst e; rw [if_pos rfl, up2_same]
    · rw [if_neg e, up2_other (by omega), up2_other (by omega), (h1 i hi).2]
  · rw [up2_other (by omega), up2_other (by omega)]; exact h2
  · rw [up2_ne (by unfold rt; omega), up2_ne (by unfold rt; omega)]
  · rw [up2_ne (by unfold rt; omega), up2_ne (by unfold rt; omega)]
theorem zb_K {D : Mem} {b c R : Nat} {x y : Int32} (h : ZB D b) (hc : c = b ∨ (isB c ∧ isB b)) : ZB (up2 (up2 D (c + 1) R x) (c + 2) R y) b := (fun i hi => by
  have e : ¬ rt b i = c + 1 ∧ ¬ rt b i = c + 2 := by unfold rt; unfold isB at hc; omega
  show up2 _ _ _ _ _ _ = 0 ∨ up2 _ _ _ _ _ _ = 1
  rw [up2_ne e.2, up2_ne e.1]; exact h i hi)
theorem enc_V {D : Mem} {b : Nat} {B : Bk} {r v : Nat} (h : Enc D b B) : Enc (up2 D (rt b r) 4 (nI v)) b (setV B r v) := by
  obtain ⟨h1, h2, h3, h4⟩ := h
  refine ⟨fun i hi => ⟨?_, ?_⟩, ?_, h3, fun i hi => ?_⟩
  · rw [up2_ne (by unfold rt; omega)]; exact (h1 i hi).1
  · rw [up2_ne (by unfold rt; omega)]; exact (h1 i hi).2
  · rw [up2_ne (by unfold rt; omega)]; exact h2
  · obtain ⟨a, b2, c, d, e⟩ := h4 i hi
    refine ⟨?_, ?_, ?_, ?_, ?_⟩
    · rw [up2_other (by omega)]; exact a
    · rw [up2_other (by omega)]; exact b2
    · show _ = if i = r then nI v else vb_ B i
      by_cases e : i = r
      · subst e; rw [if_pos rfl, up2_same]
      · rw [if_neg e, up2_other (by unfold rt; omega)]; exact c
    · rw [up2_other (by omega)]; exact d
    · obtain ⟨e1, e2, e3, e4, e5⟩ := e
      exact ⟨e1, by rw [up2_other (by omega)]; exact e2, by rw [up2_other (by omega)]; exact e3, fun k hk => by rw [up2_ne (by unfold rt; omega)]; exact e4 k hk, e5⟩
theorem enc_T {D : Mem} {b : Nat} {B : Bk} {r : Nat} (h : Enc D b B) : Enc (up2 D (rt b r) 6 0) b (setT B r) := by
  obtain ⟨h1, h2, h3, h4⟩ := h
  refine ⟨fun i hi => ⟨?_, ?_⟩, ?_, h3, fun i hi => ?_⟩
  · rw [up2_ne (by unfold rt; omega)]; exact (h1 i hi).1
  · rw [up2_ne (by unfold rt; omega)]; exact (h1 i hi).2
  · rw [up2_ne (by unfold rt; omega)]; exact h2
  · obtain ⟨a, b2, c, d, e⟩ := h4 i hi
    refine ⟨?_, ?_, ?_, ?_, ?_⟩
    · show _ = b2i (if i = r then false else th_ B i)
      by_cases e : i = r
      · subst e; rw [if_pos rfl, up2_same]; rfl
      · rw [if_neg e, up2_other (by unfold rt; omega)]; exact a
    · rw [up2_other (by omega)]; exact b2
    · rw [up2_other (by omega)]; exact c
    · rw [up2_other (by omega)]; exact d
    · obtain ⟨e1, e2, e3, e4, e5⟩ := e
      exact ⟨e1, by rw [up2_other (by omega)]; exact e2, by rw [up2_other (by omega)]; exact e3, fun k hk => by rw [up2_ne (by unfold rt; omega)]; exact e4 k hk, e5⟩
theorem enc_add {D D' : Mem} {b : Nat} {B : Bk} {R : Nat} {v m : Int32} {s : List Nat} (h : Enc D b B) (hl : cm_ B < 10) (h1 : D' (b + 1) = D (b + 1)) (h2 : D' (b + 2) = D (b + 2)) (h3 : D' b 4 = nI (cm_ B + 1)) (h4 : ∀ i, i < cm_ B → D' (rt b i) = D (rt b i) ∧ D' (rt b i + 1) = D (rt b i + 1)) (h5 : RT D' (rt b (cm_ B)) true R v m s) : Enc D' b (addB B R v m s) := by
  obtain ⟨g1, g2, g3, g4⟩ := h
  refine ⟨fun i hi => by rw [h1, h2]; exact g1 i hi, h3, hl, fun i hi => ?_⟩
  have hi' : i < cm_ B + 1 := hi
  show RT D' (rt b i) (if i = cm_ B then true else th_ B i) (if i = cm_ B then R else ro_ B i) (if i = cm_ B then v else vb_ B i) (if i = cm_ B then m else mo_ B i) (if i = cm_ B then s else sg_ B i)
  by_cases e : i = cm_ B
  · subst e; simp only [if_pos rfl]; exact h5
  · simp only [if_neg e]; exact (g4 i (by omega)).fr (h4 i (by omega)).1 (h4 i (by omega)).2
/-- the state with another book -/
def sB (S : St) (B : Bk) : St := (B, kp S, im S, tl S, rw_ S, rf S)
theorem ivs_sB {D : Mem} {S : St} {B : Bk} (h : IVs D S) : IVs D (sB S B) := h
theorem inv_grow {D D' : Mem} {S : St} (hb : IVb D S) (hs : IVs D S) (h0 : D 95 0 = 0) (g : TRI D' (bk S) ∧ Fr inT2 D D') : INV1 D' S := by
  obtain ⟨⟨g1, g2, g3⟩, gf⟩ := g
  refine ⟨hb.fr (fun b q1 q2 => gf b (by unfold inT2; omega)), hs.fr (gf 0 (by unfold inT2; omega)) (fun b q1 q2 => gf b (by unfold inT2; omega)) (gf 103 (by unfold inT2; omega)), g1, fun i hi => ⟨(g2 i hi).1, (g2 i hi).2, (hb.2.1.1 i hi).1, (hb.2.1.1 i hi).2⟩, g3, by rw [gf 95 (by unfold inT2; omega)]; exact h0⟩
theorem VB_K {B : Bk} {R k f : Nat} (h : VB B) (hk : k ≤ 5) (hf : f ≤ 9) : VB (setK B R k f) := by
  refine ⟨fun i hi => ?_, h.2.1, h.2.2⟩
  show (if i = R then k else kd_ B i) ≤ 5 ∧ (if i = R then f else fg_ B i) ≤ 9
  by_cases e : i = R
  · simp only [if_pos e]; exact ⟨hk, hf⟩
  · simp only [if_neg e]; exact h.1 i hi
theorem VB_T {B : Bk} {r : Nat} (h : VB B) : VB (setT B r) := h
theorem VB_V {B : Bk} {r v : Nat} (h : VB B) (hv : v < 4) (hm : mo_ B r = -9) : VB (setV B r v) := by
  refine ⟨h.1, h.2.1, fun i hi => ⟨(h.2.2 i hi).1, (h.2.2 i hi).2.1, ?_⟩⟩
  by_cases e : i = r
  · subst e
    exact Or.inl ⟨hm, v, hv, show (if i = i then nI v else vb_ B i) = nI v from if_pos rfl⟩
  · have e1 : vb_ (setV B r v) i = vb_ B i := if_neg e
    rw [e1]
    exact (h.2.2 i hi).2.2
theorem VB_add {B : Bk} {R : Nat} {v m : Int32} {s : List Nat} (h : VB B) (hl : cm_ B < 10) (hR : R < 3) (hs : VS s) (hx : (m = -9 ∧ ∃ w, w < 4 ∧ v = nI w) ∨ (v = -9 ∧ ∃ w, m = nI w ∧ R < w ∧ w < 3 ∧ pl s = s.length)) : VB (addB B R v m s) := by
  refine ⟨h.1, hl, fun i hi => ?_⟩
  have hi' : i < cm_ B + 1 := hi
  unfold VR
  show (if i = cm_ B then R else ro_ B i) < 3 ∧ VS (if i = cm_ B then s else sg_ B i) ∧ (((if i = cm_ B then m else mo_ B i) = -9 ∧ ∃ w, w < 4 ∧ (if i = cm_ B then v else vb_ B i) = nI w) ∨ ((if i = cm_ B then v else vb_ B i) = -9 ∧ ∃ w, (if i = cm_ B then m else mo_ B i) = nI w ∧ (if i = cm_ B then R else ro_ B i) < w ∧ w < 3 ∧ pl (if i = cm_ B then s else sg_ B i) = (if i = cm_ B then s else sg_ B i).length))
  by_cases e : i = cm_ B
  · simp only [if_pos e]; exact ⟨hR, hs, hx⟩
  · simp only [if_neg e]; exact h.2.2 i (by omega)
theorem PDB_add {B : Bk} {R : Nat} {v m : Int32} {s : List Nat} (h : PDB B) (hs : PDs s) : PDB (addB B R v m s) := by
  intro i hi
  have hi' : i < cm_ B + 1 := hi
  show PDs (if i = cm_ B then s else sg_ B i)
  by_cases e : i = cm_ B
  · rw [if_pos e]; exact hs
  · rw [if_neg e]; exact h i (by omega)
def m_kind (S : St) (x y z : Int32) : Int32 × St :=
  if decide (0 ≤ x ∧ x < 3) = true then if 0 ≤ y ∧ y < 6 then if z < 0 then no_ S 4 else if 9 < z then no_ S 6 else
    (nI (10 * kd_ (bk S) x.toNatClampNeg + fg_ (bk S) x.toNatClampNeg), sB S (setK (bk S) x.toNatClampNeg y.toNatClampNeg z.toNatClampNeg)) else no_ S 2 else no_ S 1
def m_verb (S : St) (x y : Int32) : Int32 × St :=
  if isTh (bk S) x = true then if mtB (bk S) x.toNatClampNeg = true then no_ S 3 else if decide (0 ≤ y ∧ y < 4) = true then (vb_ (bk S) x.toNatClampNeg, sB S (setV (bk S) x.toNatClampNeg y.toNatClampNeg)) else no_ S 2 else no_ S 1
def popB (B : Bk) : Int32 := nI (pop (mkn (thN B) 10))
def m_drops (S : St) (x : Int32) : Int32 × St :=
  if isTh (bk S) x = true then (popB (setT (bk S) x.toNatClampNeg), sB S (setT (bk S) x.toNatClampNeg)) else no_ S 1
def m_copies (S : St) (x y : Int32) : Int32 × St :=
  if isTh (bk S) x = true then if decide (0 ≤ y ∧ y < 3) = true then if mtB (bk S) x.toNatClampNeg = true ∧ mo_ (bk S) x.toNatClampNeg ≤ y then no_ S 3 else if 10 ≤ cm_ (bk S) then no_ S 6 else
    (nI (cm_ (bk S)), sB S (addB (bk S) y.toNatClampNeg (vb_ (bk S) x.toNatClampNeg) (mo_ (bk S) x.toNatClampNeg) (sg_ (bk S) x.toNatClampNeg))) else no_ S 1 else no_ S 1
def m_image (S : St) : Int32 × St := (popB (bk S), (bk S, bk S, true, tl S, rw_ S, rf S))
def m_on (S : St) : Int32 × St := if im S = true then (popB (kp S), sB S (kp S)) else no_ S 3
theorem ivb_K {D : Mem} {S : St} {R k f : Nat} (h : IVb D S) (hR : R < 3) (hk : k ≤ 5) (hf : f ≤ 9) : IVb (up2 (up2 D 2 R (nI k)) 3 R (nI f)) (sB S (setK (bk S) R k f)) := by
  obtain ⟨h1, h2, h3, h4, h5, h6, h7, h8⟩ := h
  exact ⟨enc_K (Or.inl rfl) h1 hR, VB_K h2 hk hf, fun q => ⟨(h3 q).1.fr (fun x hx => by unfold inB at hx; rw [up2_ne (by omega), up2_ne (by omega)]), (h3 q).2⟩, zb_K (c := 1) h4 (Or.inl rfl), zb_K (c := 1) h5 (Or.inr ⟨Or.inl rfl, Or.inr (Or.inl rfl)⟩), zb_K (c := 1) h6 (Or.inr ⟨Or.inl rfl, Or.inr (Or.inr rfl)⟩), h7, h8⟩
theorem ck_grow {D D1 D2 : Mem} {S : St} {u v : Int32} (hu : u = v) (hb : IVb D1 S) (hs : IVs D1 S) (h0 : D1 95 0 = 0) (hf : Fr inC D D1) (g : TRI D2 (bk S) ∧ Fr inT2 D1 D2) : CK D (v, S) u D2 :=
  ⟨hu, inv_grow hb hs h0 g, hf.tr (g.2.mono (fun b hb => by unfold inT2 at hb; unfold inC; omega))⟩
theorem zb_up {D : Mem} {b c r k : Nat} {x : Int32} (h : ZB D b) (hx : k ≠ 6 ∨ x = 0 ∨ x = 1) : ZB (up2 D (rt c r) k x) b := fun i hi => by
  by_cases e : rt b i = rt c r ∧ 6 = k
  · rw [e.1, ← e.2, up2_same]; exact hx.resolve_left (fun q => q e.2.symm)
  · show up2 _ _ _ _ _ _ = 0 ∨ up2 _ _ _ _ _ _ = 1
    rw [up2_other e]; exact h i hi
theorem ivb_V {D : Mem} {S : St} {r v : Nat} (h : IVb D S) (hr : r < 10) (hv : v < 4) (hm : mo_ (bk S) r = -9) : IVb (up2 D (rt 1 r) 4 (nI v)) (sB S (setV (bk S) r v)) := by
  obtain ⟨h1, h2, h3, h4, h5, h6, h7, h8⟩ := h
  exact ⟨enc_V h1, VB_V h2 hv hm, fun q => ⟨(h3 q).1.fr (fun x hx => by unfold inB at hx; rw [up2_ne (by unfold rt; omega)]), (h3 q).2⟩, zb_up h4 (Or.inl (by omega)), zb_up h5 (Or.inl (by omega)), zb_up h6 (Or.inl (by omega)), h7, h8⟩
theorem ivb_T {D : Mem} {S : St} {r : Nat} (h : IVb D S) (hr : r < 10) : IVb (up2 D (rt 1 r) 6 0) (sB S (setT (bk S) r)) := by
  obtain ⟨h1, h2, h3, h4, h5, h6, h7, h8⟩ := h
  exact ⟨enc_T h1, VB_T h2, fun q => ⟨(h3 q).1.fr (fun x hx => by unfold inB at hx; rw [up2_ne (by unfold rt; omega)]), (h3 q).2⟩, zb_up h4 (Or.inr (Or.inl rfl)), zb_up h5 (Or.inr (Or.inl rfl)), zb_up h6 (Or.inr (Or.inl rfl)), h7, h8⟩
theorem ivs_up {D : Mem} {S : St} {a k : Nat} {x : Int32} (h : IVs D S) (ha : 1 ≤ a ∧ a ≤ 95) : IVs (up2 D a k x) S := h.fr (up2_ne (by omega)) (fun b _ _ => up2_ne (by omega)) (up2_ne (by omega))
theorem inC_up {D : Mem} {a k : Nat} {x : Int32} (ha : a < 104) : Fr inC D (up2 D a k x) := Fr.up ha
theorem mul10 {a b : Nat} : (10 : Int32) * nI a = nI (10 * a) := pk_mul _ _
theorem grE {D : Mem} {S : St} (h : IVb D S) : Enc D 1 (bk S) := h.1
theorem dX7_kind_0 : decode cX7_kind 0 = .ok (.iload_n 1, 1) := by decide +kernel
theorem dX7_kind_1 : decode cX7_kind 1 = .ok (.invokestatic 85, 3) := by decide +kernel
theorem dX7_kind_4 : decode cX7_kind 4 = .ok (.ifCond .ne 9, 3) := by decide +kernel
theorem dX7_kind_7 : decode cX7_kind 7 = .ok (.aload_n 0, 1) := by decide +kernel
theorem dX7_kind_8 : decode cX7_kind 8 = .ok (.iconst (-1), 1) := by decide +kernel
theorem dX7_kind_9 : decode cX7_kind 9 = .ok (.invokevirtual 51, 3) := by decide +kernel
theorem dX7_kind_12 : decode cX7_kind 12 = .ok (.ireturn, 1) := by decide +kernel
theorem dX7_kind_13 : decode cX7_kind 13 = .ok (.iload_n 2, 1) := by decide +kernel
theorem dX7_kind_14 : decode cX7_kind 14 = .ok (.ifCond .lt 9, 3) := by decide +kernel
theorem dX7_kind_17 : decode cX7_kind 17 = .ok (.iload_n 2, 1) := by decide +kernel
theorem dX7_kind_18 : decode cX7_kind 18 = .ok (.bipush 6, 2) := by decide +kernel
theorem dX7_kind_20 : decode cX7_kind 20 = .ok (.if_icmp .lt 10, 3) := by decide +kernel
theorem dX7_kind_23 : decode cX7_kind 23 = .ok (.aload_n 0, 1) := by decide +kernel
theorem dX7_kind_24 : decode cX7_kind 24 = .ok (.bipush (-2), 2) := by decide +kernel
theorem dX7_kind_26 : decode cX7_kind 26 = .ok (.invokevirtual 51, 3) := by decide +kernel
theorem dX7_kind_29 : decode cX7_kind 29 = .ok (.ireturn, 1) := by decide +kernel
theorem dX7_kind_30 : decode cX7_kind 30 = .ok (.iload_n 3, 1) := by decide +kernel
theorem dX7_kind_31 : decode cX7_kind 31 = .ok (.ifCond .ge 10, 3) := by decide +kernel
theorem dX7_kind_34 : decode cX7_kind 34 = .ok (.aload_n 0, 1) := by decide +kernel
theorem dX7_kind_35 : decode cX7_kind 35 = .ok (.bipush (-4), 2) := by decide +kernel
theorem dX7_kind_37 : decode cX7_kind 37 = .ok (.invokevirtual 51, 3) := by decide +kernel
theorem dX7_kind_40 : decode cX7_kind 40 = .ok (.ireturn, 1) := by decide +kernel
theorem dX7_kind_41 : decode cX7_kind 41 = .ok (.iload_n 3, 1) := by decide +kernel
theorem dX7_kind_42 : decode cX7_kind 42 = .ok (.bipush 9, 2) := by decide +kernel
theorem dX7_kind_44 : decode cX7_kind 44 = .ok (.if_icmp .le 10, 3) := by decide +kernel
theorem dX7_kind_47 : decode cX7_kind 47 = .ok (.aload_n 0, 1) := by decide +kernel
theorem dX7_kind_48 : decode cX7_kind 48 = .ok (.bipush (-6), 2) := by decide +kernel
theorem dX7_kind_50 : decode cX7_kind 50 = .ok (.invokevirtual 51, 3) := by decide +kernel
theorem dX7_kind_53 : decode cX7_kind 53 = .ok (.ireturn, 1) := by decide +kernel
theorem dX7_kind_54 : decode cX7_kind 54 = .ok (.bipush 10, 2) := by decide +kernel
theorem dX7_kind_56 : decode cX7_kind 56 = .ok (.aload_n 0, 1) := by decide +kernel
theorem dX7_kind_57 : decode cX7_kind 57 = .ok (.getfield 10, 3) := by decide +kernel
theorem dX7_kind_60 : decode cX7_kind 60 = .ok (.getfield 89, 3) := by decide +kernel
theorem dX7_kind_63 : decode cX7_kind 63 = .ok (.iload_n 1, 1) := by decide +kernel
theorem dX7_kind_64 : decode cX7_kind 64 = .ok (.invokestatic 92, 3) := by decide +kernel
theorem dX7_kind_67 : decode cX7_kind 67 = .ok (.imul, 1) := by decide +kernel
theorem dX7_kind_68 : decode cX7_kind 68 = .ok (.aload_n 0, 1) := by decide +kernel
theorem dX7_kind_69 : decode cX7_kind 69 = .ok (.getfield 10, 3) := by decide +kernel
theorem dX7_kind_72 : decode cX7_kind 72 = .ok (.getfield 96, 3) := by decide +kernel
theorem dX7_kind_75 : decode cX7_kind 75 = .ok (.iload_n 1, 1) := by decide +kernel
theorem dX7_kind_76 : decode cX7_kind 76 = .ok (.invokestatic 92, 3) := by decide +kernel
theorem dX7_kind_79 : decode cX7_kind 79 = .ok (.iadd, 1) := by decide +kernel
theorem dX7_kind_80 : decode cX7_kind 80 = .ok (.istore 4, 2) := by decide +kernel
theorem dX7_kind_82 : decode cX7_kind 82 = .ok (.aload_n 0, 1) := by decide +kernel
theorem dX7_kind_83 : decode cX7_kind 83 = .ok (.getfield 10, 3) := by decide +kernel
theorem dX7_kind_86 : decode cX7_kind 86 = .ok (.getfield 89, 3) := by decide +kernel
theorem dX7_kind_89 : decode cX7_kind 89 = .ok (.iload_n 1, 1) := by decide +kernel
theorem dX7_kind_90 : decode cX7_kind 90 = .ok (.iload_n 2, 1) := by decide +kernel
theorem dX7_kind_91 : decode cX7_kind 91 = .ok (.invokestatic 99, 3) := by decide +kernel
theorem dX7_kind_94 : decode cX7_kind 94 = .ok (.aload_n 0, 1) := by decide +kernel
theorem dX7_kind_95 : decode cX7_kind 95 = .ok (.getfield 10, 3) := by decide +kernel
theorem dX7_kind_98 : decode cX7_kind 98 = .ok (.getfield 96, 3) := by decide +kernel
theorem dX7_kind_101 : decode cX7_kind 101 = .ok (.iload_n 1, 1) := by decide +kernel
theorem dX7_kind_102 : decode cX7_kind 102 = .ok (.iload_n 3, 1) := by decide +kernel
theorem dX7_kind_103 : decode cX7_kind 103 = .ok (.invokestatic 99, 3) := by decide +kernel
theorem dX7_kind_106 : decode cX7_kind 106 = .ok (.aload_n 0, 1) := by decide +kernel
theorem dX7_kind_107 : decode cX7_kind 107 = .ok (.getfield 25, 3) := by decide +kernel
theorem dX7_kind_110 : decode cX7_kind 110 = .ok (.getfield 76, 3) := by decide +kernel
theorem dX7_kind_113 : decode cX7_kind 113 = .ok (.aload_n 0, 1) := by decide +kernel
theorem dX7_kind_114 : decode cX7_kind 114 = .ok (.getfield 10, 3) := by decide +kernel
theorem dX7_kind_117 : decode cX7_kind 117 = .ok (.invokevirtual 80, 3) := by decide +kernel
theorem dX7_kind_120 : decode cX7_kind 120 = .ok (.iload 4, 2) := by decide +kernel
theorem dX7_kind_122 : decode cX7_kind 122 = .ok (.ireturn, 1) := by decide +kernel
theorem sp_X7_kind {x y z : Int32} {S : St} {D : Mem} (h : INV1 D S) : Rix 5 j_X7_kind [.ref 0, .int x, .int y, .int z] D (fun u D' => CK D (m_kind S x y z) u D') := by
  refine E.start 1 (ls := [some (.ref 0), some (.int x), some (.int y), some (.int z), none]) (by decide +kernel) (Nat.le_of_ble_eq_true rfl) rfl (Nat.le_refl _) (Nat.le_refl _) ?_
  have hcm := h.1.2.1.2.1
  refine X_iload_n (nx := 1) dX7_kind_0 rfl rfl rfl ?_
  refine Y_Si1 (nx := 4) dX7_kind_1 rfl ml_RX7_85 kj_X7_isRouter ks_X7_isRouter (sp_X7_isRouter) (by first | decide | omega) (by exact Nat.le_of_ble_eq_true rfl) ?_
  refine X_if_ne (tgt := 13) (nx := 7) dX7_kind_4 rfl rfl (fun h4 => ?_) (fun h4 => ?_)
  · skip
    have c4 := b2i_t.mp h4
    obtain ⟨R, hR, rfl⟩ := ex_nI (N := 3) (n := 3) rfl (by decide) (of_decide_eq_true c4)
    have k4 : (nI R).toNatClampNeg = R := nI_clamp (by omega)
    refine X_iload_n (nx := 14) dX7_kind_13 rfl rfl rfl ?_
    refine X_if_lt (tgt := 23) (nx := 17) dX7_kind_14 rfl rfl (fun h14 => ?_) (fun h14 => ?_)
    · skip
      refine X_aload_n (nx := 24) dX7_kind_23 rfl rfl rfl ?_
      refine X_bipush (v := -2) (nx := 26) dX7_kind_24 rfl rfl ?_
      refine Y_Vi1 (nx := 29) dX7_kind_26 rfl ml_RX7_51 kj_X7_refuse kv_X7_refuse (sp_X7_refuse (k := 2) rfl (by omega) (by omega)) (by first | assumption | rfl | decide | omega) (by first | assumption | rfl | decide | omega) (by decide) rfl (by first | decide | omega) (by exact Nat.le_of_ble_eq_true rfl) ?_
      exact Z_reti dX7_kind_29 (Or.inl rfl) (by unfold m_kind; first | (rw [if_pos c4, if_neg (fun q => absurd h14 (Int32.not_lt.mpr q.1))]; exact ck_no (k := 2) h Fr.rf (by omega) (by omega)) | (rw [if_pos c4, if_neg (fun q => h20 q.2)]; exact ck_no (k := 2) h Fr.rf (by omega) (by omega)))
    · skip
      refine X_iload_n (nx := 18) dX7_kind_17 rfl rfl rfl ?_
      refine X_bipush (v := 6) (nx := 20) dX7_kind_18 rfl rfl ?_
      refine X_icmp_lt (tgt := 30) (nx := 23) dX7_kind_20 rfl rfl (fun h20 => ?_) (fun h20 => ?_)
      · skip
        obtain ⟨k, hk, rfl⟩ := ex_nI (x := y) (N := 6) (n := 6) rfl (by decide) ⟨Int32.not_lt.mp h14, h20⟩
        have k20 : (nI k).toNatClampNeg = k := nI_clamp (by omega)
        refine X_iload_n (nx := 31) dX7_kind_30 rfl rfl rfl ?_
        refine X_if_ge (tgt := 41) (nx := 34) dX7_kind_31 rfl rfl (fun h31 => ?_) (fun h31 => ?_)
        · skip
          refine X_iload_n (nx := 42) dX7_kind_41 rfl rfl rfl ?_
          refine X_bipush (v := 9) (nx := 44) dX7_kind_42 rfl rfl ?_
          refine X_icmp_le (tgt := 54) (nx := 47) dX7_kind_44 rfl rfl (fun h44 => ?_) (fun h44 => ?_)
          · skip
            obtain ⟨f, hf, rfl⟩ := ex_nI (x := z) (N := 10) (n := 10) rfl (by decide) ⟨h31, Int32.lt_of_le_of_lt h44 (by decide)⟩
            have k44 : (nI f).toNatClampNeg = f := nI_clamp (by omega)
            obtain ⟨q1, q2⟩ := h.1.1.1 R hR
            have hly : (lay 2).2 = 3 ∧ (lay 3).2 = 3 := by decide
            have hb1 := ivb_K h.1 hR (show k ≤ 5 by omega) (show f ≤ 9 by omega)
            have hs1 := ivs_up (a := 3) (k := R) (x := nI f) (ivs_up (a := 2) (k := R) (x := nI k) h.2.1 (by omega)) (by omega)
            refine X_bipush (v := 10) (nx := 56) dX7_kind_54 rfl rfl ?_
            refine X_aload_n (nx := 57) dX7_kind_56 rfl rfl rfl ?_
            refine M_getP (nx := 60) dX7_kind_57 rfl fl_RX7_10 rfl (by first | assumption | rfl | decide | omega) (by first | assumption | rfl | decide | omega) (by first | assumption | rfl | decide | omega) ?_
            refine M_getP (nx := 63) dX7_kind_60 rfl fl_RX7_89 rfl (by first | assumption | rfl | decide | omega) (by first | assumption | rfl | decide | omega) (by first | assumption | rfl | decide | omega) ?_
            refine X_iload_n (nx := 64) dX7_kind_63 rfl rfl rfl ?_
            refine Y_Si2 (nx := 67) dX7_kind_64 rfl ml_RX7_92 kj_X7_numberAt ks_X7_numberAt (sp_X7_numberAt (i := R) (by decide) (by decide) rfl (by omega)) (by first | decide | omega) (by exact Nat.le_of_ble_eq_true rfl) ?_
            refine X_top (q1) ?_
            refine X_imul (nx := 68) dX7_kind_67 rfl ?_
            refine X_top (mul10 (b := 0)) ?_
            refine X_aload_n (nx := 69) dX7_kind_68 rfl rfl rfl ?_
            refine M_getP (nx := 72) dX7_kind_69 rfl fl_RX7_10 rfl (by first | assumption | rfl | decide | omega) (by first | assumption | rfl | decide | omega) (by first | assumption | rfl | decide | omega) ?_
            refine M_getP (nx := 75) dX7_kind_72 rfl fl_RX7_96 rfl (by first | assumption | rfl | decide | omega) (by first | assumption | rfl | decide | omega) (by first | assumption | rfl | decide | omega) ?_
            refine X_iload_n (nx := 76) dX7_kind_75 rfl rfl rfl ?_
            refine Y_Si2 (nx := 79) dX7_kind_76 rfl ml_RX7_92 kj_X7_numberAt ks_X7_numberAt (sp_X7_numberAt (i := R) (by decide) (by decide) rfl (by omega)) (by first | decide | omega) (by exact Nat.le_of_ble_eq_true rfl) ?_
            refine X_top (q2) ?_
            refine X_iadd (nx := 80) dX7_kind_79 rfl ?_
            refine X_top (nI_add _ _) ?_
            refine X_istore (i := 4) (nx := 82) dX7_kind_80 rfl (by decide) rfl (st_s (st_s (st_s (st_s (st_0))))) ?_
            refine X_aload_n (nx := 83) dX7_kind_82 rfl rfl rfl ?_
            refine M_getP (nx := 86) dX7_kind_83 rfl fl_RX7_10 rfl (by first | assumption | rfl | decide | omega) (by first | assumption | rfl | decide | omega) (by first | assumption | rfl | decide | omega) ?_
            refine M_getP (nx := 89) dX7_kind_86 rfl fl_RX7_89 rfl (by first | assumption | rfl | decide | omega) (by first | assumption | rfl | decide | omega) (by first | assumption | rfl | decide | omega) ?_
            refine X_iload_n (nx := 90) dX7_kind_89 rfl rfl rfl ?_
            refine X_iload_n (nx := 91) dX7_kind_90 rfl rfl rfl ?_
            refine Y_Sv3 (nx := 94) dX7_kind_91 rfl ml_RX7_99 kj_X7_put ks_X7_put (sp_X7_put (i := R) (by decide) (by decide) rfl (by omega)) (by first | decide | omega) (by exact Nat.le_of_ble_eq_true rfl) ?_
            refine X_aload_n (nx := 95) dX7_kind_94 rfl rfl rfl ?_
            refine M_getP (nx := 98) dX7_kind_95 rfl fl_RX7_10 rfl (by first | assumption | rfl | decide | omega) (by first | assumption | rfl | decide | omega) (by first | assumption | rfl | decide | omega) ?_
            refine M_getP (nx := 101) dX7_kind_98 rfl fl_RX7_96 rfl (by first | assumption | rfl | decide | omega) (by first | assumption | rfl | decide | omega) (by first | assumption | rfl | decide | omega) ?_
            refine X_iload_n (nx := 102) dX7_kind_101 rfl rfl rfl ?_
            refine X_iload_n (nx := 103) dX7_kind_102 rfl rfl rfl ?_
            refine Y_Sv3 (nx := 106) dX7_kind_103 rfl ml_RX7_99 kj_X7_put ks_X7_put (sp_X7_put (i := R) (by decide) (by decide) rfl (by omega)) (by first | decide | omega) (by exact Nat.le_of_ble_eq_true rfl) ?_
            refine X_aload_n (nx := 107) dX7_kind_106 rfl rfl rfl ?_
            refine M_getP (nx := 110) dX7_kind_107 rfl fl_RX7_25 rfl (by first | assumption | rfl | decide | omega) (by first | assumption | rfl | decide | omega) (by first | assumption | rfl | decide | omega) ?_
            refine M_getP (nx := 113) dX7_kind_110 rfl fl_RX7_76 rfl (by first | assumption | rfl | decide | omega) (by first | assumption | rfl | decide | omega) (by first | assumption | rfl | decide | omega) ?_
            refine X_aload_n (nx := 114) dX7_kind_113 rfl rfl rfl ?_
            refine M_getP (nx := 117) dX7_kind_114 rfl fl_RX7_10 rfl (by first | assumption | rfl | decide | omega) (by first | assumption | rfl | decide | omega) (by first | assumption | rfl | decide | omega) ?_
            refine Z_Vv1 (nx := 120) dX7_kind_117 rfl ml_RX7_80 kj_X5_grow kv_X5_grow (sp_X5_grow (B := setK (bk S) R k f) hb1.1 hb1.2.1) (by first | assumption | rfl | decide | omega) (by first | assumption | rfl | decide | omega) (by decide) rfl (by first | decide | omega) (by exact Nat.le_of_ble_eq_true rfl) (fun D117 g117 => ?_)
            refine X_iload (nx := 122) dX7_kind_120 rfl rfl ?_
            exact Z_reti dX7_kind_122 (Or.inl rfl) (by unfold m_kind; rw [if_pos c4, if_pos ⟨Int32.not_lt.mp h14, h20⟩, if_neg (Int32.not_lt.mpr h31), if_neg (Int32.not_lt.mpr h44), k4, k20, k44]; exact ck_grow rfl hb1 hs1 ((up2_other (by omega)).trans ((up2_other (by omega)).trans h.2.2.2.2.2)) ((inC_up (by omega)).tr (inC_up (by omega))) g117)
          · skip
            refine X_aload_n (nx := 48) dX7_kind_47 rfl rfl rfl ?_
            refine X_bipush (v := -6) (nx := 50) dX7_kind_48 rfl rfl ?_
            refine Y_Vi1 (nx := 53) dX7_kind_50 rfl ml_RX7_51 kj_X7_refuse kv_X7_refuse (sp_X7_refuse (k := 6) rfl (by omega) (by omega)) (by first | assumption | rfl | decide | omega) (by first | assumption | rfl | decide | omega) (by decide) rfl (by first | decide | omega) (by exact Nat.le_of_ble_eq_true rfl) ?_
            exact Z_reti dX7_kind_53 (Or.inl rfl) (by unfold m_kind; rw [if_pos c4, if_pos ⟨Int32.not_lt.mp h14, h20⟩, if_neg (Int32.not_lt.mpr h31), if_pos (Int32.not_le.mp h44)]; exact ck_no (k := 6) h Fr.rf (by omega) (by omega))
        · skip
          refine X_aload_n (nx := 35) dX7_kind_34 rfl rfl rfl ?_
          refine X_bipush (v := -4) (nx := 37) dX7_kind_35 rfl rfl ?_
          refine Y_Vi1 (nx := 40) dX7_kind_37 rfl ml_RX7_51 kj_X7_refuse kv_X7_refuse (sp_X7_refuse (k := 4) rfl (by omega) (by omega)) (by first | assumption | rfl | decide | omega) (by first | assumption | rfl | decide | omega) (by decide) rfl (by first | decide | omega) (by exact Nat.le_of_ble_eq_true rfl) ?_
          exact Z_reti dX7_kind_40 (Or.inl rfl) (by unfold m_kind; rw [if_pos c4, if_pos ⟨Int32.not_lt.mp h14, h20⟩, if_pos (Int32.not_le.mp h31)]; exact ck_no (k := 4) h Fr.rf (by omega) (by omega))
      · skip
        refine X_aload_n (nx := 24) dX7_kind_23 rfl rfl rfl ?_
        refine X_bipush (v := -2) (nx := 26) dX7_kind_24 rfl rfl ?_
        refine Y_Vi1 (nx := 29) dX7_kind_26 rfl ml_RX7_51 kj_X7_refuse kv_X7_refuse (sp_X7_refuse (k := 2) rfl (by omega) (by omega)) (by first | assumption | rfl | decide | omega) (by first | assumption | rfl | decide | omega) (by decide) rfl (by first | decide | omega) (by exact Nat.le_of_ble_eq_true rfl) ?_
        exact Z_reti dX7_kind_29 (Or.inl rfl) (by unfold m_kind; first | (rw [if_pos c4, if_neg (fun q => absurd h14 (Int32.not_lt.mpr q.1))]; exact ck_no (k := 2) h Fr.rf (by omega) (by omega)) | (rw [if_pos c4, if_neg (fun q => h20 q.2)]; exact ck_no (k := 2) h Fr.rf (by omega) (by omega)))
  · skip
    have n4 := nb h4
    refine X_aload_n (nx := 8) dX7_kind_7 rfl rfl rfl ?_
    refine X_iconst (v := -1) (nx := 9) dX7_kind_8 rfl rfl ?_
    refine Y_Vi1 (nx := 12) dX7_kind_9 rfl ml_RX7_51 kj_X7_refuse kv_X7_refuse (sp_X7_refuse (k := 1) rfl (by omega) (by omega)) (by first | assumption | rfl | decide | omega) (by first | assumption | rfl | decide | omega) (by decide) rfl (by first | decide | omega) (by exact Nat.le_of_ble_eq_true rfl) ?_
    exact Z_reti dX7_kind_12 (Or.inl rfl) (by unfold m_kind; rw [if_neg n4]; exact ck_no (k := 1) h Fr.rf (by omega) (by omega))
theorem dX7_verb_0 : decode cX7_verb 0 = .ok (.aload_n 0, 1) := by decide +kernel
theorem dX7_verb_1 : decode cX7_verb 1 = .ok (.getfield 10, 3) := by decide +kernel
theorem dX7_verb_4 : decode cX7_verb 4 = .ok (.iload_n 1, 1) := by decide +kernel
theorem dX7_verb_5 : decode cX7_verb 5 = .ok (.invokevirtual 103, 3) := by decide +kernel
theorem dX7_verb_8 : decode cX7_verb 8 = .ok (.ifCond .ne 9, 3) := by decide +kernel
theorem dX7_verb_11 : decode cX7_verb 11 = .ok (.aload_n 0, 1) := by decide +kernel
theorem dX7_verb_12 : decode cX7_verb 12 = .ok (.iconst (-1), 1) := by decide +kernel
theorem dX7_verb_13 : decode cX7_verb 13 = .ok (.invokevirtual 51, 3) := by decide +kernel
theorem dX7_verb_16 : decode cX7_verb 16 = .ok (.ireturn, 1) := by decide +kernel
theorem dX7_verb_17 : decode cX7_verb 17 = .ok (.aload_n 0, 1) := by decide +kernel
theorem dX7_verb_18 : decode cX7_verb 18 = .ok (.getfield 10, 3) := by decide +kernel
theorem dX7_verb_21 : decode cX7_verb 21 = .ok (.iload_n 1, 1) := by decide +kernel
theorem dX7_verb_22 : decode cX7_verb 22 = .ok (.invokevirtual 106, 3) := by decide +kernel
theorem dX7_verb_25 : decode cX7_verb 25 = .ok (.astore_n 3, 1) := by decide +kernel
theorem dX7_verb_26 : decode cX7_verb 26 = .ok (.aload_n 3, 1) := by decide +kernel
theorem dX7_verb_27 : decode cX7_verb 27 = .ok (.invokevirtual 110, 3) := by decide +kernel
theorem dX7_verb_30 : decode cX7_verb 30 = .ok (.ifCond .eq 10, 3) := by decide +kernel
theorem dX7_verb_33 : decode cX7_verb 33 = .ok (.aload_n 0, 1) := by decide +kernel
theorem dX7_verb_34 : decode cX7_verb 34 = .ok (.bipush (-3), 2) := by decide +kernel
theorem dX7_verb_36 : decode cX7_verb 36 = .ok (.invokevirtual 51, 3) := by decide +kernel
theorem dX7_verb_39 : decode cX7_verb 39 = .ok (.ireturn, 1) := by decide +kernel
theorem dX7_verb_40 : decode cX7_verb 40 = .ok (.iload_n 2, 1) := by decide +kernel
theorem dX7_verb_41 : decode cX7_verb 41 = .ok (.invokestatic 115, 3) := by decide +kernel
theorem dX7_verb_44 : decode cX7_verb 44 = .ok (.ifCond .ne 10, 3) := by decide +kernel
theorem dX7_verb_47 : decode cX7_verb 47 = .ok (.aload_n 0, 1) := by decide +kernel
theorem dX7_verb_48 : decode cX7_verb 48 = .ok (.bipush (-2), 2) := by decide +kernel
theorem dX7_verb_50 : decode cX7_verb 50 = .ok (.invokevirtual 51, 3) := by decide +kernel
theorem dX7_verb_53 : decode cX7_verb 53 = .ok (.ireturn, 1) := by decide +kernel
theorem dX7_verb_54 : decode cX7_verb 54 = .ok (.aload_n 3, 1) := by decide +kernel
theorem dX7_verb_55 : decode cX7_verb 55 = .ok (.getfield 118, 3) := by decide +kernel
theorem dX7_verb_58 : decode cX7_verb 58 = .ok (.istore 4, 2) := by decide +kernel
theorem dX7_verb_60 : decode cX7_verb 60 = .ok (.aload_n 3, 1) := by decide +kernel
theorem dX7_verb_61 : decode cX7_verb 61 = .ok (.iload_n 2, 1) := by decide +kernel
theorem dX7_verb_62 : decode cX7_verb 62 = .ok (.putfield 118, 3) := by decide +kernel
theorem dX7_verb_65 : decode cX7_verb 65 = .ok (.aload_n 0, 1) := by decide +kernel
theorem dX7_verb_66 : decode cX7_verb 66 = .ok (.getfield 25, 3) := by decide +kernel
theorem dX7_verb_69 : decode cX7_verb 69 = .ok (.getfield 76, 3) := by decide +kernel
theorem dX7_verb_72 : decode cX7_verb 72 = .ok (.aload_n 0, 1) := by decide +kernel
theorem dX7_verb_73 : decode cX7_verb 73 = .ok (.getfield 10, 3) := by decide +kernel
theorem dX7_verb_76 : decode cX7_verb 76 = .ok (.invokevirtual 80, 3) := by decide +kernel
theorem dX7_verb_79 : decode cX7_verb 79 = .ok (.iload 4, 2) := by decide +kernel
theorem dX7_verb_81 : decode cX7_verb 81 = .ok (.ireturn, 1) := by decide +kernel
theorem sp_X7_verb {x y : Int32} {S : St} {D : Mem} (h : INV1 D S) : Rix 5 j_X7_verb [.ref 0, .int x, .int y] D (fun u D' => CK D (m_verb S x y) u D') := by
  refine E.start 2 (ls := [some (.ref 0), some (.int x), some (.int y), none, none]) (by decide +kernel) (Nat.le_of_ble_eq_true rfl) rfl (Nat.le_refl _) (Nat.le_refl _) ?_
  have hcm := h.1.2.1.2.1
  refine X_aload_n (nx := 1) dX7_verb_0 rfl rfl rfl ?_
  refine M_getP (nx := 4) dX7_verb_1 rfl fl_RX7_10 rfl (by first | assumption | rfl | decide | omega) (by first | assumption | rfl | decide | omega) (by first | assumption | rfl | decide | omega) ?_
  refine X_iload_n (nx := 5) dX7_verb_4 rfl rfl rfl ?_
  refine Y_Vi1 (nx := 8) dX7_verb_5 rfl ml_RX7_103 kj_X0_isThere kv_X0_isThere (sp_X0_isThere (Or.inl rfl) h.1.1) (by first | assumption | rfl | decide | omega) (by first | assumption | rfl | decide | omega) (by decide) rfl (by first | decide | omega) (by exact Nat.le_of_ble_eq_true rfl) ?_
  refine X_if_ne (tgt := 17) (nx := 11) dX7_verb_8 rfl rfl (fun h8 => ?_) (fun h8 => ?_)
  · skip
    have c8 := b2i_t.mp h8
    obtain ⟨r, hr, rfl, tr⟩ := isTh_t hcm c8
    have k8 : (nI r).toNatClampNeg = r := nI_clamp (by omega)
    obtain ⟨r1, r2, r3, r4, r5⟩ := h.1.1.2.2.2 r hr
    have hisR := ((isB.facts (Or.inl rfl : isB 1)).2.2.2.2.2.2 r (by omega)).2
    have ha : rt 1 r < 138 := hisR.1
    have hc : (lay (rt 1 r)).1 = 3 := hisR.2
    have hrt : rt 1 r ≠ 95 ∧ 1 ≤ rt 1 r ∧ rt 1 r ≤ 95 := by unfold rt; omega
    refine X_aload_n (nx := 18) dX7_verb_17 rfl rfl rfl ?_
    refine M_getP (nx := 21) dX7_verb_18 rfl fl_RX7_10 rfl (by first | assumption | rfl | decide | omega) (by first | assumption | rfl | decide | omega) (by first | assumption | rfl | decide | omega) ?_
    refine X_iload_n (nx := 22) dX7_verb_21 rfl rfl rfl ?_
    refine Y_Vr1 (nx := 25) dX7_verb_22 rfl ml_RX7_106 kj_X0_at kv_X0_at (sp_X0_at (Or.inl rfl) (i := r) rfl (by omega)) (by first | assumption | rfl | decide | omega) (by first | assumption | rfl | decide | omega) (by decide) rfl (by first | decide | omega) (by exact Nat.le_of_ble_eq_true rfl) ?_
    refine X_astore_n (i := 3) (nx := 26) dX7_verb_25 rfl rfl (by decide) rfl (st_s (st_s (st_s (st_0)))) ?_
    refine X_aload_n (nx := 27) dX7_verb_26 rfl rfl rfl ?_
    refine Y_Vi0 (nx := 30) dX7_verb_27 rfl ml_RX7_110 kj_X4_isMount kv_X4_isMount (sp_X4_isMount hisR) (by first | assumption | rfl | decide | omega) (by first | assumption | rfl | decide | omega) (by decide) rfl (by first | decide | omega) (by exact Nat.le_of_ble_eq_true rfl) ?_
    refine X_if_eq (tgt := 40) (nx := 33) dX7_verb_30 rfl rfl (fun h30 => ?_) (fun h30 => ?_)
    · skip
      have n30 := nb h30
      rw [r4] at n30
      have m30 : ¬ mtB (bk S) r = true := n30
      have hmt : mo_ (bk S) r = -9 := (h.1.2.1.2.2 r hr).2.2.elim (fun q => q.1) (fun q => by obtain ⟨_, m, e, _, hm, _⟩ := q; exact absurd (decide_eq_true (by rw [e]; exact nI_pos' (by omega))) n30)
      refine X_iload_n (nx := 41) dX7_verb_40 rfl rfl rfl ?_
      refine Y_Si1 (nx := 44) dX7_verb_41 rfl ml_RX7_115 kj_X7_isVerb ks_X7_isVerb (sp_X7_isVerb) (by first | decide | omega) (by exact Nat.le_of_ble_eq_true rfl) ?_
      refine X_if_ne (tgt := 54) (nx := 47) dX7_verb_44 rfl rfl (fun h44 => ?_) (fun h44 => ?_)
      · skip
        have c44 := b2i_t.mp h44
        obtain ⟨v, hv, rfl⟩ := ex_nI (N := 4) (n := 4) rfl (by decide) (of_decide_eq_true c44)
        have k44 : (nI v).toNatClampNeg = v := nI_clamp (by omega)
        have hb1 := ivb_V h.1 (by omega) hv hmt
        have hs1 := ivs_up (a := rt 1 r) (k := 4) (x := nI v) h.2.1 hrt.2
        refine X_aload_n (nx := 55) dX7_verb_54 rfl rfl rfl ?_
        refine M_getI (nx := 58) dX7_verb_55 rfl fl_RX7_118 rfl (by first | assumption | rfl | decide | omega) (by first | assumption | rfl | decide | omega) ?_
        refine X_istore (i := 4) (nx := 60) dX7_verb_58 rfl (by decide) rfl (st_s (st_s (st_s (st_s (st_0))))) ?_
        refine X_aload_n (nx := 61) dX7_verb_60 rfl rfl rfl ?_
        refine X_iload_n (nx := 62) dX7_verb_61 rfl rfl rfl ?_
        refine M_putI (nx := 65) dX7_verb_62 rfl fl_RX7_118 rfl rfl (by first | assumption | rfl | decide | omega) (by first | assumption | rfl | decide | omega) ?_
        refine X_aload_n (nx := 66) dX7_verb_65 rfl rfl rfl ?_
        refine M_getP (nx := 69) dX7_verb_66 rfl fl_RX7_25 rfl (by first | assumption | rfl | decide | omega) (by first | assumption | rfl | decide | omega) (by first | assumption | rfl | decide | omega) ?_
        refine M_getP (nx := 72) dX7_verb_69 rfl fl_RX7_76 rfl (by first | assumption | rfl | decide | omega) (by first | assumption | rfl | decide | omega) (by first | assumption | rfl | decide | omega) ?_
        refine X_aload_n (nx := 73) dX7_verb_72 rfl rfl rfl ?_
        refine M_getP (nx := 76) dX7_verb_73 rfl fl_RX7_10 rfl (by first | assumption | rfl | decide | omega) (by first | assumption | rfl | decide | omega) (by first | assumption | rfl | decide | omega) ?_
        refine Z_Vv1 (nx := 79) dX7_verb_76 rfl ml_RX7_80 kj_X5_grow kv_X5_grow (sp_X5_grow (B := setV (bk S) r v) hb1.1 hb1.2.1) (by first | assumption | rfl | decide | omega) (by first | assumption | rfl | decide | omega) (by decide) rfl (by first | decide | omega) (by exact Nat.le_of_ble_eq_true rfl) (fun D76 g76 => ?_)
        refine X_iload (nx := 81) dX7_verb_79 rfl rfl ?_
        exact Z_reti dX7_verb_81 (Or.inl rfl) (by unfold m_verb; rw [if_pos c8, k8, if_neg m30, if_pos c44, k44]; exact ck_grow r3 hb1 hs1 ((up2_other (by omega)).trans h.2.2.2.2.2) (inC_up (by omega)) g76)
      · skip
        have n44 := nb h44
        refine X_aload_n (nx := 48) dX7_verb_47 rfl rfl rfl ?_
        refine X_bipush (v := -2) (nx := 50) dX7_verb_48 rfl rfl ?_
        refine Y_Vi1 (nx := 53) dX7_verb_50 rfl ml_RX7_51 kj_X7_refuse kv_X7_refuse (sp_X7_refuse (k := 2) rfl (by omega) (by omega)) (by first | assumption | rfl | decide | omega) (by first | assumption | rfl | decide | omega) (by decide) rfl (by first | decide | omega) (by exact Nat.le_of_ble_eq_true rfl) ?_
        exact Z_reti dX7_verb_53 (Or.inl rfl) (by unfold m_verb; rw [if_pos c8, k8, if_neg m30, if_neg n44]; exact ck_no (k := 2) h Fr.rf (by omega) (by omega))
    · skip
      have c30 := b2i_t.mp h30
      rw [r4] at c30
      have m30 : mtB (bk S) r = true := c30
      refine X_aload_n (nx := 34) dX7_verb_33 rfl rfl rfl ?_
      refine X_bipush (v := -3) (nx := 36) dX7_verb_34 rfl rfl ?_
      refine Y_Vi1 (nx := 39) dX7_verb_36 rfl ml_RX7_51 kj_X7_refuse kv_X7_refuse (sp_X7_refuse (k := 3) rfl (by omega) (by omega)) (by first | assumption | rfl | decide | omega) (by first | assumption | rfl | decide | omega) (by decide) rfl (by first | decide | omega) (by exact Nat.le_of_ble_eq_true rfl) ?_
      exact Z_reti dX7_verb_39 (Or.inl rfl) (by unfold m_verb; rw [if_pos c8, k8, if_pos m30]; exact ck_no (k := 3) h Fr.rf (by omega) (by omega))
  · skip
    have n8 := nb h8
    refine X_aload_n (nx := 12) dX7_verb_11 rfl rfl rfl ?_
    refine X_iconst (v := -1) (nx := 13) dX7_verb_12 rfl rfl ?_
    refine Y_Vi1 (nx := 16) dX7_verb_13 rfl ml_RX7_51 kj_X7_refuse kv_X7_refuse (sp_X7_refuse (k := 1) rfl (by omega) (by omega)) (by first | assumption | rfl | decide | omega) (by first | assumption | rfl | decide | omega) (by decide) rfl (by first | decide | omega) (by exact Nat.le_of_ble_eq_true rfl) ?_
    exact Z_reti dX7_verb_16 (Or.inl rfl) (by unfold m_verb; rw [if_neg n8]; exact ck_no (k := 1) h Fr.rf (by omega) (by omega))
theorem dX7_drops_0 : decode cX7_drops 0 = .ok (.aload_n 0, 1) := by decide +kernel
theorem dX7_drops_1 : decode cX7_drops 1 = .ok (.getfield 10, 3) := by decide +kernel
theorem dX7_drops_4 : decode cX7_drops 4 = .ok (.iload_n 1, 1) := by decide +kernel
theorem dX7_drops_5 : decode cX7_drops 5 = .ok (.invokevirtual 103, 3) := by decide +kernel
theorem dX7_drops_8 : decode cX7_drops 8 = .ok (.ifCond .ne 9, 3) := by decide +kernel
theorem dX7_drops_11 : decode cX7_drops 11 = .ok (.aload_n 0, 1) := by decide +kernel
theorem dX7_drops_12 : decode cX7_drops 12 = .ok (.iconst (-1), 1) := by decide +kernel
theorem dX7_drops_13 : decode cX7_drops 13 = .ok (.invokevirtual 51, 3) := by decide +kernel
theorem dX7_drops_16 : decode cX7_drops 16 = .ok (.ireturn, 1) := by decide +kernel
theorem dX7_drops_17 : decode cX7_drops 17 = .ok (.aload_n 0, 1) := by decide +kernel
theorem dX7_drops_18 : decode cX7_drops 18 = .ok (.getfield 10, 3) := by decide +kernel
theorem dX7_drops_21 : decode cX7_drops 21 = .ok (.iload_n 1, 1) := by decide +kernel
theorem dX7_drops_22 : decode cX7_drops 22 = .ok (.invokevirtual 106, 3) := by decide +kernel
theorem dX7_drops_25 : decode cX7_drops 25 = .ok (.iconst 0, 1) := by decide +kernel
theorem dX7_drops_26 : decode cX7_drops 26 = .ok (.putfield 121, 3) := by decide +kernel
theorem dX7_drops_29 : decode cX7_drops 29 = .ok (.aload_n 0, 1) := by decide +kernel
theorem dX7_drops_30 : decode cX7_drops 30 = .ok (.getfield 25, 3) := by decide +kernel
theorem dX7_drops_33 : decode cX7_drops 33 = .ok (.getfield 76, 3) := by decide +kernel
theorem dX7_drops_36 : decode cX7_drops 36 = .ok (.aload_n 0, 1) := by decide +kernel
theorem dX7_drops_37 : decode cX7_drops 37 = .ok (.getfield 10, 3) := by decide +kernel
theorem dX7_drops_40 : decode cX7_drops 40 = .ok (.invokevirtual 80, 3) := by decide +kernel
theorem dX7_drops_43 : decode cX7_drops 43 = .ok (.aload_n 0, 1) := by decide +kernel
theorem dX7_drops_44 : decode cX7_drops 44 = .ok (.getfield 10, 3) := by decide +kernel
theorem dX7_drops_47 : decode cX7_drops 47 = .ok (.invokevirtual 125, 3) := by decide +kernel
theorem dX7_drops_50 : decode cX7_drops 50 = .ok (.invokestatic 129, 3) := by decide +kernel
theorem dX7_drops_53 : decode cX7_drops 53 = .ok (.ireturn, 1) := by decide +kernel
theorem sp_X7_drops {x : Int32} {S : St} {D : Mem} (h : INV1 D S) : Rix 5 j_X7_drops [.ref 0, .int x] D (fun u D' => CK D (m_drops S x) u D') := by
  refine E.start 0 (ls := [some (.ref 0), some (.int x)]) (by decide +kernel) (Nat.le_of_ble_eq_true rfl) rfl (Nat.le_refl _) (Nat.le_refl _) ?_
  have hcm := h.1.2.1.2.1
  refine X_aload_n (nx := 1) dX7_drops_0 rfl rfl rfl ?_
  refine M_getP (nx := 4) dX7_drops_1 rfl fl_RX7_10 rfl (by first | assumption | rfl | decide | omega) (by first | assumption | rfl | decide | omega) (by first | assumption | rfl | decide | omega) ?_
  refine X_iload_n (nx := 5) dX7_drops_4 rfl rfl rfl ?_
  refine Y_Vi1 (nx := 8) dX7_drops_5 rfl ml_RX7_103 kj_X0_isThere kv_X0_isThere (sp_X0_isThere (Or.inl rfl) h.1.1) (by first | assumption | rfl | decide | omega) (by first | assumption | rfl | decide | omega) (by decide) rfl (by first | decide | omega) (by exact Nat.le_of_ble_eq_true rfl) ?_
  refine X_if_ne (tgt := 17) (nx := 11) dX7_drops_8 rfl rfl (fun h8 => ?_) (fun h8 => ?_)
  · skip
    have c8 := b2i_t.mp h8
    obtain ⟨r, hr, rfl, tr⟩ := isTh_t hcm c8
    have k8 : (nI r).toNatClampNeg = r := nI_clamp (by omega)
    obtain ⟨r1, r2, r3, r4, r5⟩ := h.1.1.2.2.2 r hr
    have hisR := ((isB.facts (Or.inl rfl : isB 1)).2.2.2.2.2.2 r (by omega)).2
    have ha : rt 1 r < 138 := hisR.1
    have hc : (lay (rt 1 r)).1 = 3 := hisR.2
    have hrt : rt 1 r ≠ 95 ∧ 1 ≤ rt 1 r ∧ rt 1 r ≤ 95 := by unfold rt; omega
    have hb1 := ivb_T h.1 (r := r) (by omega)
    have hs1 := ivs_up (a := rt 1 r) (k := 6) (x := 0) h.2.1 hrt.2
    refine X_aload_n (nx := 18) dX7_drops_17 rfl rfl rfl ?_
    refine M_getP (nx := 21) dX7_drops_18 rfl fl_RX7_10 rfl (by first | assumption | rfl | decide | omega) (by first | assumption | rfl | decide | omega) (by first | assumption | rfl | decide | omega) ?_
    refine X_iload_n (nx := 22) dX7_drops_21 rfl rfl rfl ?_
    refine Y_Vr1 (nx := 25) dX7_drops_22 rfl ml_RX7_106 kj_X0_at kv_X0_at (sp_X0_at (Or.inl rfl) (i := r) rfl (by omega)) (by first | assumption | rfl | decide | omega) (by first | assumption | rfl | decide | omega) (by decide) rfl (by first | decide | omega) (by exact Nat.le_of_ble_eq_true rfl) ?_
    refine X_iconst (v := 0) (nx := 26) dX7_drops_25 rfl rfl ?_
    refine M_putZ (nx := 29) dX7_drops_26 rfl fl_RX7_121 rfl rfl (Or.inl rfl) (by first | assumption | rfl | decide | omega) (by first | assumption | rfl | decide | omega) ?_
    refine X_aload_n (nx := 30) dX7_drops_29 rfl rfl rfl ?_
    refine M_getP (nx := 33) dX7_drops_30 rfl fl_RX7_25 rfl (by first | assumption | rfl | decide | omega) (by first | assumption | rfl | decide | omega) (by first | assumption | rfl | decide | omega) ?_
    refine M_getP (nx := 36) dX7_drops_33 rfl fl_RX7_76 rfl (by first | assumption | rfl | decide | omega) (by first | assumption | rfl | decide | omega) (by first | assumption | rfl | decide | omega) ?_
    refine X_aload_n (nx := 37) dX7_drops_36 rfl rfl rfl ?_
    refine M_getP (nx := 40) dX7_drops_37 rfl fl_RX7_10 rfl (by first | assumption | rfl | decide | omega) (by first | assumption | rfl | decide | omega) (by first | assumption | rfl | decide | omega) ?_
    refine Z_Vv1 (nx := 43) dX7_drops_40 rfl ml_RX7_80 kj_X5_grow kv_X5_grow (sp_X5_grow (B := setT (bk S) r) hb1.1 hb1.2.1) (by first | assumption | rfl | decide | omega) (by first | assumption | rfl | decide | omega) (by decide) rfl (by first | decide | omega) (by exact Nat.le_of_ble_eq_true rfl) (fun D40 g40 => ?_)
    refine X_aload_n (nx := 44) dX7_drops_43 rfl rfl rfl ?_
    refine M_getP (nx := 47) dX7_drops_44 rfl fl_RX7_10 rfl (by first | assumption | rfl | decide | omega) (by first | assumption | rfl | decide | omega) (by first | assumption | rfl | decide | omega) ?_
    refine Y_Vi0 (nx := 50) dX7_drops_47 rfl ml_RX7_125 kj_X0_thereBits kv_X0_thereBits (sp_X0_thereBits (Or.inl rfl) (Enc.frT2 hb1.1 g40.2)) (by first | assumption | rfl | decide | omega) (by first | assumption | rfl | decide | omega) (by decide) rfl (by first | decide | omega) (by exact Nat.le_of_ble_eq_true rfl) ?_
    refine Y_Si1 (nx := 53) dX7_drops_50 rfl ml_RX7_129 kj_J6_bitCount_0f7a4 ks_J6_bitCount_0f7a4 (sp_J6_bitCount_0f7a4 rfl (mkn_lt _ 10)) (by first | decide | omega) (by exact Nat.le_of_ble_eq_true rfl) ?_
    exact Z_reti dX7_drops_53 (Or.inl rfl) (by unfold m_drops; rw [if_pos c8, k8]; exact ck_grow rfl hb1 hs1 ((up2_other (by omega)).trans h.2.2.2.2.2) (inC_up (by omega)) g40)
  · skip
    have n8 := nb h8
    refine X_aload_n (nx := 12) dX7_drops_11 rfl rfl rfl ?_
    refine X_iconst (v := -1) (nx := 13) dX7_drops_12 rfl rfl ?_
    refine Y_Vi1 (nx := 16) dX7_drops_13 rfl ml_RX7_51 kj_X7_refuse kv_X7_refuse (sp_X7_refuse (k := 1) rfl (by omega) (by omega)) (by first | assumption | rfl | decide | omega) (by first | assumption | rfl | decide | omega) (by decide) rfl (by first | decide | omega) (by exact Nat.le_of_ble_eq_true rfl) ?_
    exact Z_reti dX7_drops_16 (Or.inl rfl) (by unfold m_drops; rw [if_neg n8]; exact ck_no (k := 1) h Fr.rf (by omega) (by omega))
theorem Enc.mem {D D' : Mem} {b : Nat} {B : Bk} (h : Enc D b B) (h0 : D' b 4 = D b 4) (h1 : D' (b + 1) = D (b + 1)) (h2 : D' (b + 2) = D (b + 2)) (h4 : ∀ i, i < cm_ B → D' (rt b i) = D (rt b i) ∧ D' (rt b i + 1) = D (rt b i + 1)) : Enc D' b B := by
  obtain ⟨g1, g2, g3, g4⟩ := h
  exact ⟨fun i hi => by rw [h1, h2]; exact g1 i hi, h0.trans g2, g3, fun i hi => (g4 i hi).fr (h4 i hi).1 (h4 i hi).2⟩
/-- the memory behind a copied route with its new router -/
def cpD (D : Mem) (c R : Nat) : Mem := up2 (up2 (up2 D (rt 1 c) 3 (nI R)) (rt 1 c) 6 1) 1 4 (nI (c + 1))
theorem ivb_copy {D D1 : Mem} {S : St} {r R : Nat} (h : IVb D S) (hr : r < cm_ (bk S)) (hl : cm_ (bk S) < 10) (g : CPR D D1 (rt 1 (cm_ (bk S))) (rt 1 r)) (hR : R < 3) (hm : mtB (bk S) r = true → nI R < mo_ (bk S) r) : IVb (cpD D1 (cm_ (bk S)) R) (sB S (addB (bk S) R (vb_ (bk S) r) (mo_ (bk S) r) (sg_ (bk S) r))) ∧ Enc (up2 D1 (rt 1 (cm_ (bk S))) 3 (nI R)) 1 (bk S) := by
  obtain ⟨h1, h2, h3, h4, h5, h6, h7, h8⟩ := h
  have hf : ∀ b, b ≠ rt 1 (cm_ (bk S)) → b ≠ rt 1 (cm_ (bk S)) + 1 → D1 b = D b := fun b q1 q2 => g.2.2 b (by omega)
  have hE0 : Enc (up2 D1 (rt 1 (cm_ (bk S))) 3 (nI R)) 1 (bk S) := by
    refine h1.mem ?_ ?_ ?_ (fun i hi => ⟨?_, ?_⟩)
    · rw [up2_ne (by unfold rt; omega), hf _ (by unfold rt; omega) (by unfold rt; omega)]
    · rw [up2_ne (by unfold rt; omega), hf _ (by unfold rt; omega) (by unfold rt; omega)]
    · rw [up2_ne (by unfold rt; omega), hf _ (by unfold rt; omega) (by unfold rt; omega)]
    · rw [up2_ne (by unfold rt; omega), hf _ (by unfold rt; omega) (by unfold rt; omega)]
    · rw [up2_ne (by unfold rt; omega), hf _ (by unfold rt; omega) (by unfold rt; omega)]
  have hV := h2.2.2 r hr
  have ho : ∀ b, b ≠ 1 → b ≠ rt 1 (cm_ (bk S)) → b ≠ rt 1 (cm_ (bk S)) + 1 → cpD D1 (cm_ (bk S)) R b = D b := fun b q0 q1 q2 => by unfold cpD; rw [up2_ne q0, up2_ne q1, up2_ne q1, hf b q1 q2]
  have h66 : cpD D1 (cm_ (bk S)) R (rt 1 (cm_ (bk S))) 6 = 1 := by
    unfold cpD; rw [up2_ne (by unfold rt; omega)]; exact up2_same
  refine ⟨⟨?_, ?_, fun q => ⟨(h3 q).1.fr (fun x hx => ho x (by unfold inB at hx; omega) (by unfold inB at hx; unfold rt; omega) (by unfold inB at hx; unfold rt; omega)), (h3 q).2⟩, ?_, ?_, ?_, PDB_add h7 (h7 r hr), h8⟩, hE0⟩
  · refine enc_add h1 hl (ho _ (by omega) (by unfold rt; omega) (by unfold rt; omega)) (ho _ (by omega) (by unfold rt; omega) (by unfold rt; omega)) (by unfold cpD; exact up2_same) (fun i hi => ⟨ho _ (by unfold rt; omega) (by unfold rt; omega) (by unfold rt; omega), ho _ (by unfold rt; omega) (by unfold rt; omega) (by unfold rt; omega)⟩) ?_
    obtain ⟨a, b2, c, d, e⟩ := g.rt (h1.2.2.2 r hr)
    have hx : ∀ k, k ≠ 3 → k ≠ 6 → cpD D1 (cm_ (bk S)) R (rt 1 (cm_ (bk S))) k = D1 (rt 1 (cm_ (bk S))) k := fun k q1 q2 => by
      unfold cpD; rw [up2_ne (by unfold rt; omega), up2_other (by omega), up2_other (by omega)]
    refine ⟨h66, ?_, (hx 4 (by omega) (by omega)).trans c, (hx 5 (by omega) (by omega)).trans d, ?_⟩
    · unfold cpD; rw [up2_ne (by unfold rt; omega), up2_other (by omega)]; exact up2_same
    · obtain ⟨e1, e2, e3, e4, e5⟩ := e
      refine ⟨e1, (hx 1 (by omega) (by omega)).trans e2, (hx 2 (by omega) (by omega)).trans e3, fun k hk => ?_, e5⟩
      unfold cpD; rw [up2_ne (by unfold rt; omega), up2_ne (by omega), up2_ne (by omega)]; exact e4 k hk
  · refine VB_add h2 hl hR hV.2.1 (hV.2.2.imp id (fun q => ?_))
    obtain ⟨q1, m, q2, q3, q4, q5⟩ := q
    refine ⟨q1, m, q2, ?_, q4, q5⟩
    have := hm (decide_eq_true (by rw [q2]; exact nI_pos' (by omega)))
    rw [q2] at this
    exact (nI_ltI (by omega) (by omega)).mp this
  · intro i hi
    by_cases e : i = cm_ (bk S)
    · subst e; exact Or.inr h66
    · rw [ho _ (by unfold rt; omega) (by unfold rt; omega) (by unfold rt; omega)]; exact h4 i hi
  · exact h5.fr (fun x hx => ho x (by unfold inB at hx; omega) (by unfold inB at hx; unfold rt; omega) (by unfold inB at hx; unfold rt; omega))
  · exact h6.fr (fun x hx => ho x (by unfold inB at hx; omega) (by unfold inB at hx; unfold rt; omega) (by unfold inB at hx; unfold rt; omega))
theorem ivs_fr {D D' : Mem} {S : St} (h : IVs D S) (hf : Fr (fun b => 1 ≤ b ∧ b ≤ 95) D D') : IVs D' S := h.fr (hf 0 (by omega)) (fun b _ _ => hf b (by omega)) (hf 103 (by omega))
theorem cpD_fr {D D1 : Mem} {c R r : Nat} (g : CPR D D1 (rt 1 c) (rt 1 r)) (hc : c < 10) : Fr (fun b => 1 ≤ b ∧ b ≤ 26) D (cpD D1 c R) :=
  (g.2.2.mono (fun b hb => by unfold rt at hb; omega)).tr (((Fr.up (by unfold rt; omega)).tr (Fr.up (by unfold rt; omega))).tr (Fr.up (by omega)))
theorem popB_eq (B : Bk) : nI (pop (mkn (thN B) 10)) = popB B := rfl
theorem dX7_copies_0 : decode cX7_copies 0 = .ok (.aload_n 0, 1) := by decide +kernel
theorem dX7_copies_1 : decode cX7_copies 1 = .ok (.getfield 10, 3) := by decide +kernel
theorem dX7_copies_4 : decode cX7_copies 4 = .ok (.iload_n 1, 1) := by decide +kernel
theorem dX7_copies_5 : decode cX7_copies 5 = .ok (.invokevirtual 103, 3) := by decide +kernel
theorem dX7_copies_8 : decode cX7_copies 8 = .ok (.ifCond .eq 10, 3) := by decide +kernel
theorem dX7_copies_11 : decode cX7_copies 11 = .ok (.iload_n 2, 1) := by decide +kernel
theorem dX7_copies_12 : decode cX7_copies 12 = .ok (.invokestatic 85, 3) := by decide +kernel
theorem dX7_copies_15 : decode cX7_copies 15 = .ok (.ifCond .ne 9, 3) := by decide +kernel
theorem dX7_copies_18 : decode cX7_copies 18 = .ok (.aload_n 0, 1) := by decide +kernel
theorem dX7_copies_19 : decode cX7_copies 19 = .ok (.iconst (-1), 1) := by decide +kernel
theorem dX7_copies_20 : decode cX7_copies 20 = .ok (.invokevirtual 51, 3) := by decide +kernel
theorem dX7_copies_23 : decode cX7_copies 23 = .ok (.ireturn, 1) := by decide +kernel
theorem dX7_copies_24 : decode cX7_copies 24 = .ok (.aload_n 0, 1) := by decide +kernel
theorem dX7_copies_25 : decode cX7_copies 25 = .ok (.getfield 10, 3) := by decide +kernel
theorem dX7_copies_28 : decode cX7_copies 28 = .ok (.iload_n 1, 1) := by decide +kernel
theorem dX7_copies_29 : decode cX7_copies 29 = .ok (.invokevirtual 106, 3) := by decide +kernel
theorem dX7_copies_32 : decode cX7_copies 32 = .ok (.astore_n 3, 1) := by decide +kernel
theorem dX7_copies_33 : decode cX7_copies 33 = .ok (.aload_n 3, 1) := by decide +kernel
theorem dX7_copies_34 : decode cX7_copies 34 = .ok (.invokevirtual 110, 3) := by decide +kernel
theorem dX7_copies_37 : decode cX7_copies 37 = .ok (.ifCond .eq 18, 3) := by decide +kernel
theorem dX7_copies_40 : decode cX7_copies 40 = .ok (.aload_n 3, 1) := by decide +kernel
theorem dX7_copies_41 : decode cX7_copies 41 = .ok (.getfield 134, 3) := by decide +kernel
theorem dX7_copies_44 : decode cX7_copies 44 = .ok (.iload_n 2, 1) := by decide +kernel
theorem dX7_copies_45 : decode cX7_copies 45 = .ok (.if_icmp .gt 10, 3) := by decide +kernel
theorem dX7_copies_48 : decode cX7_copies 48 = .ok (.aload_n 0, 1) := by decide +kernel
theorem dX7_copies_49 : decode cX7_copies 49 = .ok (.bipush (-3), 2) := by decide +kernel
theorem dX7_copies_51 : decode cX7_copies 51 = .ok (.invokevirtual 51, 3) := by decide +kernel
theorem dX7_copies_54 : decode cX7_copies 54 = .ok (.ireturn, 1) := by decide +kernel
theorem dX7_copies_55 : decode cX7_copies 55 = .ok (.aload_n 0, 1) := by decide +kernel
theorem dX7_copies_56 : decode cX7_copies 56 = .ok (.getfield 10, 3) := by decide +kernel
theorem dX7_copies_59 : decode cX7_copies 59 = .ok (.invokevirtual 137, 3) := by decide +kernel
theorem dX7_copies_62 : decode cX7_copies 62 = .ok (.ifCond .eq 10, 3) := by decide +kernel
theorem dX7_copies_65 : decode cX7_copies 65 = .ok (.aload_n 0, 1) := by decide +kernel
theorem dX7_copies_66 : decode cX7_copies 66 = .ok (.bipush (-6), 2) := by decide +kernel
theorem dX7_copies_68 : decode cX7_copies 68 = .ok (.invokevirtual 51, 3) := by decide +kernel
theorem dX7_copies_71 : decode cX7_copies 71 = .ok (.ireturn, 1) := by decide +kernel
theorem dX7_copies_72 : decode cX7_copies 72 = .ok (.aload_n 0, 1) := by decide +kernel
theorem dX7_copies_73 : decode cX7_copies 73 = .ok (.getfield 10, 3) := by decide +kernel
theorem dX7_copies_76 : decode cX7_copies 76 = .ok (.invokevirtual 138, 3) := by decide +kernel
theorem dX7_copies_79 : decode cX7_copies 79 = .ok (.astore 4, 2) := by decide +kernel
theorem dX7_copies_81 : decode cX7_copies 81 = .ok (.aload 4, 2) := by decide +kernel
theorem dX7_copies_83 : decode cX7_copies 83 = .ok (.aload_n 3, 1) := by decide +kernel
theorem dX7_copies_84 : decode cX7_copies 84 = .ok (.invokevirtual 142, 3) := by decide +kernel
theorem dX7_copies_87 : decode cX7_copies 87 = .ok (.aload 4, 2) := by decide +kernel
theorem dX7_copies_89 : decode cX7_copies 89 = .ok (.iload_n 2, 1) := by decide +kernel
theorem dX7_copies_90 : decode cX7_copies 90 = .ok (.putfield 145, 3) := by decide +kernel
theorem dX7_copies_93 : decode cX7_copies 93 = .ok (.aload_n 0, 1) := by decide +kernel
theorem dX7_copies_94 : decode cX7_copies 94 = .ok (.getfield 10, 3) := by decide +kernel
theorem dX7_copies_97 : decode cX7_copies 97 = .ok (.invokevirtual 148, 3) := by decide +kernel
theorem dX7_copies_100 : decode cX7_copies 100 = .ok (.aload_n 0, 1) := by decide +kernel
theorem dX7_copies_101 : decode cX7_copies 101 = .ok (.getfield 25, 3) := by decide +kernel
theorem dX7_copies_104 : decode cX7_copies 104 = .ok (.getfield 76, 3) := by decide +kernel
theorem dX7_copies_107 : decode cX7_copies 107 = .ok (.aload_n 0, 1) := by decide +kernel
theorem dX7_copies_108 : decode cX7_copies 108 = .ok (.getfield 10, 3) := by decide +kernel
theorem dX7_copies_111 : decode cX7_copies 111 = .ok (.invokevirtual 80, 3) := by decide +kernel
theorem dX7_copies_114 : decode cX7_copies 114 = .ok (.aload_n 0, 1) := by decide +kernel
theorem dX7_copies_115 : decode cX7_copies 115 = .ok (.getfield 10, 3) := by decide +kernel
theorem dX7_copies_118 : decode cX7_copies 118 = .ok (.getfield 151, 3) := by decide +kernel
theorem dX7_copies_121 : decode cX7_copies 121 = .ok (.iconst 1, 1) := by decide +kernel
theorem dX7_copies_122 : decode cX7_copies 122 = .ok (.isub, 1) := by decide +kernel
theorem dX7_copies_123 : decode cX7_copies 123 = .ok (.ireturn, 1) := by decide +kernel
theorem sp_X7_copies {x y : Int32} {S : St} {D : Mem} (h : INV1 D S) : Rix 5 j_X7_copies [.ref 0, .int x, .int y] D (fun u D' => CK D (m_copies S x y) u D') := by
  refine E.start 2 (ls := [some (.ref 0), some (.int x), some (.int y), none, none]) (by decide +kernel) (Nat.le_of_ble_eq_true rfl) rfl (Nat.le_refl _) (Nat.le_refl _) ?_
  have hcm := h.1.2.1.2.1
  refine X_aload_n (nx := 1) dX7_copies_0 rfl rfl rfl ?_
  refine M_getP (nx := 4) dX7_copies_1 rfl fl_RX7_10 rfl (by first | assumption | rfl | decide | omega) (by first | assumption | rfl | decide | omega) (by first | assumption | rfl | decide | omega) ?_
  refine X_iload_n (nx := 5) dX7_copies_4 rfl rfl rfl ?_
  refine Y_Vi1 (nx := 8) dX7_copies_5 rfl ml_RX7_103 kj_X0_isThere kv_X0_isThere (sp_X0_isThere (Or.inl rfl) h.1.1) (by first | assumption | rfl | decide | omega) (by first | assumption | rfl | decide | omega) (by decide) rfl (by first | decide | omega) (by exact Nat.le_of_ble_eq_true rfl) ?_
  refine X_if_eq (tgt := 18) (nx := 11) dX7_copies_8 rfl rfl (fun h8 => ?_) (fun h8 => ?_)
  · skip
    have n8 := nb h8
    refine X_aload_n (nx := 19) dX7_copies_18 rfl rfl rfl ?_
    refine X_iconst (v := -1) (nx := 20) dX7_copies_19 rfl rfl ?_
    refine Y_Vi1 (nx := 23) dX7_copies_20 rfl ml_RX7_51 kj_X7_refuse kv_X7_refuse (sp_X7_refuse (k := 1) rfl (by omega) (by omega)) (by first | assumption | rfl | decide | omega) (by first | assumption | rfl | decide | omega) (by decide) rfl (by first | decide | omega) (by exact Nat.le_of_ble_eq_true rfl) ?_
    exact Z_reti dX7_copies_23 (Or.inl rfl) (by unfold m_copies; first | (rw [if_neg n8]; exact ck_no (k := 1) h Fr.rf (by omega) (by omega)) | (rw [if_pos c8, if_neg n15]; exact ck_no (k := 1) h Fr.rf (by omega) (by omega)))
  · skip
    have c8 := b2i_t.mp h8
    obtain ⟨r, hr, rfl, tr⟩ := isTh_t hcm c8
    have k8 : (nI r).toNatClampNeg = r := nI_clamp (by omega)
    obtain ⟨r1, r2, r3, r4, r5⟩ := h.1.1.2.2.2 r hr
    have hisR := ((isB.facts (Or.inl rfl : isB 1)).2.2.2.2.2.2 r (by omega)).2
    have ha : rt 1 r < 138 := hisR.1
    have hc : (lay (rt 1 r)).1 = 3 := hisR.2
    have hrt : rt 1 r ≠ 95 ∧ 1 ≤ rt 1 r ∧ rt 1 r ≤ 95 := by unfold rt; omega
    refine X_iload_n (nx := 12) dX7_copies_11 rfl rfl rfl ?_
    refine Y_Si1 (nx := 15) dX7_copies_12 rfl ml_RX7_85 kj_X7_isRouter ks_X7_isRouter (sp_X7_isRouter) (by first | decide | omega) (by exact Nat.le_of_ble_eq_true rfl) ?_
    refine X_if_ne (tgt := 24) (nx := 18) dX7_copies_15 rfl rfl (fun h15 => ?_) (fun h15 => ?_)
    · skip
      have c15 := b2i_t.mp h15
      obtain ⟨R, hR, rfl⟩ := ex_nI (N := 3) (n := 3) rfl (by decide) (of_decide_eq_true c15)
      have k15 : (nI R).toNatClampNeg = R := nI_clamp (by omega)
      refine X_aload_n (nx := 25) dX7_copies_24 rfl rfl rfl ?_
      refine M_getP (nx := 28) dX7_copies_25 rfl fl_RX7_10 rfl (by first | assumption | rfl | decide | omega) (by first | assumption | rfl | decide | omega) (by first | assumption | rfl | decide | omega) ?_
      refine X_iload_n (nx := 29) dX7_copies_28 rfl rfl rfl ?_
      refine Y_Vr1 (nx := 32) dX7_copies_29 rfl ml_RX7_106 kj_X0_at kv_X0_at (sp_X0_at (Or.inl rfl) (i := r) rfl (by omega)) (by first | assumption | rfl | decide | omega) (by first | assumption | rfl | decide | omega) (by decide) rfl (by first | decide | omega) (by exact Nat.le_of_ble_eq_true rfl) ?_
      refine X_astore_n (i := 3) (nx := 33) dX7_copies_32 rfl rfl (by decide) rfl (st_s (st_s (st_s (st_0)))) ?_
      refine X_aload_n (nx := 34) dX7_copies_33 rfl rfl rfl ?_
      refine Y_Vi0 (nx := 37) dX7_copies_34 rfl ml_RX7_110 kj_X4_isMount kv_X4_isMount (sp_X4_isMount hisR) (by first | assumption | rfl | decide | omega) (by first | assumption | rfl | decide | omega) (by decide) rfl (by first | decide | omega) (by exact Nat.le_of_ble_eq_true rfl) ?_
      refine X_if_eq (tgt := 55) (nx := 40) dX7_copies_37 rfl rfl (fun h37 => ?_) (fun h37 => ?_)
      · skip
        have n37 := nb h37
        rw [r4] at n37
        have m37 : ¬ mtB (bk S) r = true := n37
        refine X_aload_n (nx := 56) dX7_copies_55 rfl rfl rfl ?_
        refine M_getP (nx := 59) dX7_copies_56 rfl fl_RX7_10 rfl (by first | assumption | rfl | decide | omega) (by first | assumption | rfl | decide | omega) (by first | assumption | rfl | decide | omega) ?_
        refine Y_Vi0 (nx := 62) dX7_copies_59 rfl ml_RX7_137 kj_X0_isFull kv_X0_isFull (sp_X0_isFull (Or.inl rfl) h.1.1) (by first | assumption | rfl | decide | omega) (by first | assumption | rfl | decide | omega) (by decide) rfl (by first | decide | omega) (by exact Nat.le_of_ble_eq_true rfl) ?_
        refine X_if_eq (tgt := 72) (nx := 65) dX7_copies_62 rfl rfl (fun h62 => ?_) (fun h62 => ?_)
        · skip
          have n62 := nb h62
          have hl : cm_ (bk S) < 10 := Nat.not_le.mp (fun q => n62 (decide_eq_true q))
          have hmR : mtB (bk S) r = true → nI R < mo_ (bk S) r := fun q => by first | exact absurd q m37 | exact h45
          have hisC := ((isB.facts (Or.inl rfl : isB 1)).2.2.2.2.2.2 (cm_ (bk S)) hl).2
          have hb138 : rt 1 (cm_ (bk S)) < 138 := hisC.1
          have hcC : (lay (rt 1 (cm_ (bk S)))).1 = 3 := hisC.2
          refine X_aload_n (nx := 73) dX7_copies_72 rfl rfl rfl ?_
          refine M_getP (nx := 76) dX7_copies_73 rfl fl_RX7_10 rfl (by first | assumption | rfl | decide | omega) (by first | assumption | rfl | decide | omega) (by first | assumption | rfl | decide | omega) ?_
          refine Y_Vr0 (nx := 79) dX7_copies_76 rfl ml_RX7_138 kj_X0_draft kv_X0_draft (sp_X0_draft (Or.inl rfl) h.1.1 hl) (by first | assumption | rfl | decide | omega) (by first | assumption | rfl | decide | omega) (by decide) rfl (by first | decide | omega) (by exact Nat.le_of_ble_eq_true rfl) ?_
          refine X_astore (i := 4) (nx := 81) dX7_copies_79 rfl (by decide) rfl (st_s (st_s (st_s (st_s (st_0))))) ?_
          refine X_aload (nx := 83) dX7_copies_81 rfl rfl ?_
          refine X_aload_n (nx := 84) dX7_copies_83 rfl rfl rfl ?_
          refine Z_Vv1 (nx := 87) dX7_copies_84 rfl ml_RX7_142 kj_X4_copyFrom kv_X4_copyFrom (sp_X4_copyFrom hisC hisR (by unfold rt; omega) (h.1.2.2.2.1 r (by omega))) (by first | assumption | rfl | decide | omega) (by first | assumption | rfl | decide | omega) (by decide) rfl (by first | decide | omega) (by exact Nat.le_of_ble_eq_true rfl) (fun D84 g84 => ?_)
          have hb1 := ivb_copy h.1 hr hl g84 hR hmR
          have hfr := cpD_fr (R := R) g84 hl
          have hs1 := ivs_fr h.2.1 (hfr.mono (fun b hb => by omega))
          refine X_aload (nx := 89) dX7_copies_87 rfl rfl ?_
          refine X_iload_n (nx := 90) dX7_copies_89 rfl rfl rfl ?_
          refine M_putI (nx := 93) dX7_copies_90 rfl fl_RX7_145 rfl rfl (by first | assumption | rfl | decide | omega) (by first | assumption | rfl | decide | omega) ?_
          refine X_aload_n (nx := 94) dX7_copies_93 rfl rfl rfl ?_
          refine M_getP (nx := 97) dX7_copies_94 rfl fl_RX7_10 rfl (by first | assumption | rfl | decide | omega) (by first | assumption | rfl | decide | omega) (by first | assumption | rfl | decide | omega) ?_
          refine Y_Vv0 (nx := 100) dX7_copies_97 rfl ml_RX7_148 kj_X0_addDraft kv_X0_addDraft (sp_X0_addDraft (Or.inl rfl) hb1.2 hl) (by first | assumption | rfl | decide | omega) (by first | assumption | rfl | decide | omega) (by decide) rfl (by first | decide | omega) (by exact Nat.le_of_ble_eq_true rfl) ?_
          refine X_aload_n (nx := 101) dX7_copies_100 rfl rfl rfl ?_
          refine M_getP (nx := 104) dX7_copies_101 rfl fl_RX7_25 rfl (by first | assumption | rfl | decide | omega) (by first | assumption | rfl | decide | omega) (by first | assumption | rfl | decide | omega) ?_
          refine M_getP (nx := 107) dX7_copies_104 rfl fl_RX7_76 rfl (by first | assumption | rfl | decide | omega) (by first | assumption | rfl | decide | omega) (by first | assumption | rfl | decide | omega) ?_
          refine X_aload_n (nx := 108) dX7_copies_107 rfl rfl rfl ?_
          refine M_getP (nx := 111) dX7_copies_108 rfl fl_RX7_10 rfl (by first | assumption | rfl | decide | omega) (by first | assumption | rfl | decide | omega) (by first | assumption | rfl | decide | omega) ?_
          refine Z_Vv1 (nx := 114) dX7_copies_111 rfl ml_RX7_80 kj_X5_grow kv_X5_grow (sp_X5_grow (B := addB (bk S) R (vb_ (bk S) r) (mo_ (bk S) r) (sg_ (bk S) r)) hb1.1.1 hb1.1.2.1) (by first | assumption | rfl | decide | omega) (by first | assumption | rfl | decide | omega) (by decide) rfl (by first | decide | omega) (by exact Nat.le_of_ble_eq_true rfl) (fun D111 g111 => ?_)
          refine X_aload_n (nx := 115) dX7_copies_114 rfl rfl rfl ?_
          refine M_getP (nx := 118) dX7_copies_115 rfl fl_RX7_10 rfl (by first | assumption | rfl | decide | omega) (by first | assumption | rfl | decide | omega) (by first | assumption | rfl | decide | omega) ?_
          refine M_getI (nx := 121) dX7_copies_118 rfl fl_RX7_151 rfl (by first | assumption | rfl | decide | omega) (by first | assumption | rfl | decide | omega) ?_
          refine X_top (show D111 1 4 = nI (cm_ (bk S) + 1) from by rw [g111.2 1 (by unfold inT2; omega)]; exact up2_same) ?_
          refine X_iconst (v := 1) (nx := 122) dX7_copies_121 rfl rfl ?_
          refine X_isub (nx := 123) dX7_copies_122 rfl ?_
          refine X_top (sub_nI (a := cm_ (bk S) + 1) (b := 1) (by omega)) ?_
          exact Z_reti dX7_copies_123 (Or.inl rfl) (by unfold m_copies; rw [if_pos c8, if_pos c15, k8, k15, if_neg (fun q => by first | exact m37 q.1 | exact absurd h45 (Int32.not_lt.mpr q.2)), if_neg (by omega)]; exact ck_grow rfl hb1.1 hs1 ((congrFun (hfr 95 (by omega)) 0).trans h.2.2.2.2.2) (hfr.mono (fun b hb => by unfold inC; omega)) g111)
        · skip
          have c62 := b2i_t.mp h62
          refine X_aload_n (nx := 66) dX7_copies_65 rfl rfl rfl ?_
          refine X_bipush (v := -6) (nx := 68) dX7_copies_66 rfl rfl ?_
          refine Y_Vi1 (nx := 71) dX7_copies_68 rfl ml_RX7_51 kj_X7_refuse kv_X7_refuse (sp_X7_refuse (k := 6) rfl (by omega) (by omega)) (by first | assumption | rfl | decide | omega) (by first | assumption | rfl | decide | omega) (by decide) rfl (by first | decide | omega) (by exact Nat.le_of_ble_eq_true rfl) ?_
          exact Z_reti dX7_copies_71 (Or.inl rfl) (by unfold m_copies; rw [if_pos c8, if_pos c15, k8, if_neg (fun q => by first | exact m37 q.1 | exact absurd h45 (Int32.not_lt.mpr q.2)), if_pos (of_decide_eq_true c62)]; exact ck_no (k := 6) h Fr.rf (by omega) (by omega))
      · skip
        have c37 := b2i_t.mp h37
        rw [r4] at c37
        have m37 : mtB (bk S) r = true := c37
        refine X_aload_n (nx := 41) dX7_copies_40 rfl rfl rfl ?_
        refine M_getI (nx := 44) dX7_copies_41 rfl fl_RX7_134 rfl (by first | assumption | rfl | decide | omega) (by first | assumption | rfl | decide | omega) ?_
        refine X_top (r4) ?_
        refine X_iload_n (nx := 45) dX7_copies_44 rfl rfl rfl ?_
        refine X_icmp_gt (tgt := 55) (nx := 48) dX7_copies_45 rfl rfl (fun h45 => ?_) (fun h45 => ?_)
        · skip
          refine X_aload_n (nx := 56) dX7_copies_55 rfl rfl rfl ?_
          refine M_getP (nx := 59) dX7_copies_56 rfl fl_RX7_10 rfl (by first | assumption | rfl | decide | omega) (by first | assumption | rfl | decide | omega) (by first | assumption | rfl | decide | omega) ?_
          refine Y_Vi0 (nx := 62) dX7_copies_59 rfl ml_RX7_137 kj_X0_isFull kv_X0_isFull (sp_X0_isFull (Or.inl rfl) h.1.1) (by first | assumption | rfl | decide | omega) (by first | assumption | rfl | decide | omega) (by decide) rfl (by first | decide | omega) (by exact Nat.le_of_ble_eq_true rfl) ?_
          refine X_if_eq (tgt := 72) (nx := 65) dX7_copies_62 rfl rfl (fun h62 => ?_) (fun h62 => ?_)
          · skip
            have n62 := nb h62
            have hl : cm_ (bk S) < 10 := Nat.not_le.mp (fun q => n62 (decide_eq_true q))
            have hmR : mtB (bk S) r = true → nI R < mo_ (bk S) r := fun q => by first | exact absurd q m37 | exact h45
            have hisC := ((isB.facts (Or.inl rfl : isB 1)).2.2.2.2.2.2 (cm_ (bk S)) hl).2
            have hb138 : rt 1 (cm_ (bk S)) < 138 := hisC.1
            have hcC : (lay (rt 1 (cm_ (bk S)))).1 = 3 := hisC.2
            refine X_aload_n (nx := 73) dX7_copies_72 rfl rfl rfl ?_
            refine M_getP (nx := 76) dX7_copies_73 rfl fl_RX7_10 rfl (by first | assumption | rfl | decide | omega) (by first | assumption | rfl | decide | omega) (by first | assumption | rfl | decide | omega) ?_
            refine Y_Vr0 (nx := 79) dX7_copies_76 rfl ml_RX7_138 kj_X0_draft kv_X0_draft (sp_X0_draft (Or.inl rfl) h.1.1 hl) (by first | assumption | rfl | decide | omega) (by first | assumption | rfl | decide | omega) (by decide) rfl (by first | decide | omega) (by exact Nat.le_of_ble_eq_true rfl) ?_
            refine X_astore (i := 4) (nx := 81) dX7_copies_79 rfl (by decide) rfl (st_s (st_s (st_s (st_s (st_0))))) ?_
            refine X_aload (nx := 83) dX7_copies_81 rfl rfl ?_
            refine X_aload_n (nx := 84) dX7_copies_83 rfl rfl rfl ?_
            refine Z_Vv1 (nx := 87) dX7_copies_84 rfl ml_RX7_142 kj_X4_copyFrom kv_X4_copyFrom (sp_X4_copyFrom hisC hisR (by unfold rt; omega) (h.1.2.2.2.1 r (by omega))) (by first | assumption | rfl | decide | omega) (by first | assumption | rfl | decide | omega) (by decide) rfl (by first | decide | omega) (by exact Nat.le_of_ble_eq_true rfl) (fun D84 g84 => ?_)
            have hb1 := ivb_copy h.1 hr hl g84 hR hmR
            have hfr := cpD_fr (R := R) g84 hl
            have hs1 := ivs_fr h.2.1 (hfr.mono (fun b hb => by omega))
            refine X_aload (nx := 89) dX7_copies_87 rfl rfl ?_
            refine X_iload_n (nx := 90) dX7_copies_89 rfl rfl rfl ?_
            refine M_putI (nx := 93) dX7_copies_90 rfl fl_RX7_145 rfl rfl (by first | assumption | rfl | decide | omega) (by first | assumption | rfl | decide | omega) ?_
            refine X_aload_n (nx := 94) dX7_copies_93 rfl rfl rfl ?_
            refine M_getP (nx := 97) dX7_copies_94 rfl fl_RX7_10 rfl (by first | assumption | rfl | decide | omega) (by first | assumption | rfl | decide | omega) (by first | assumption | rfl | decide | omega) ?_
            refine Y_Vv0 (nx := 100) dX7_copies_97 rfl ml_RX7_148 kj_X0_addDraft kv_X0_addDraft (sp_X0_addDraft (Or.inl rfl) hb1.2 hl) (by first | assumption | rfl | decide | omega) (by first | assumption | rfl | decide | omega) (by decide) rfl (by first | decide | omega) (by exact Nat.le_of_ble_eq_true rfl) ?_
            refine X_aload_n (nx := 101) dX7_copies_100 rfl rfl rfl ?_
            refine M_getP (nx := 104) dX7_copies_101 rfl fl_RX7_25 rfl (by first | assumption | rfl | decide | omega) (by first | assumption | rfl | decide | omega) (by first | assumption | rfl | decide | omega) ?_
            refine M_getP (nx := 107) dX7_copies_104 rfl fl_RX7_76 rfl (by first | assumption | rfl | decide | omega) (by first | assumption | rfl | decide | omega) (by first | assumption | rfl | decide | omega) ?_
            refine X_aload_n (nx := 108) dX7_copies_107 rfl rfl rfl ?_
            refine M_getP (nx := 111) dX7_copies_108 rfl fl_RX7_10 rfl (by first | assumption | rfl | decide | omega) (by first | assumption | rfl | decide | omega) (by first | assumption | rfl | decide | omega) ?_
            refine Z_Vv1 (nx := 114) dX7_copies_111 rfl ml_RX7_80 kj_X5_grow kv_X5_grow (sp_X5_grow (B := addB (bk S) R (vb_ (bk S) r) (mo_ (bk S) r) (sg_ (bk S) r)) hb1.1.1 hb1.1.2.1) (by first | assumption | rfl | decide | omega) (by first | assumption | rfl | decide | omega) (by decide) rfl (by first | decide | omega) (by exact Nat.le_of_ble_eq_true rfl) (fun D111 g111 => ?_)
            refine X_aload_n (nx := 115) dX7_copies_114 rfl rfl rfl ?_
            refine M_getP (nx := 118) dX7_copies_115 rfl fl_RX7_10 rfl (by first | assumption | rfl | decide | omega) (by first | assumption | rfl | decide | omega) (by first | assumption | rfl | decide | omega) ?_
            refine M_getI (nx := 121) dX7_copies_118 rfl fl_RX7_151 rfl (by first | assumption | rfl | decide | omega) (by first | assumption | rfl | decide | omega) ?_
            refine X_top (show D111 1 4 = nI (cm_ (bk S) + 1) from by rw [g111.2 1 (by unfold inT2; omega)]; exact up2_same) ?_
            refine X_iconst (v := 1) (nx := 122) dX7_copies_121 rfl rfl ?_
            refine X_isub (nx := 123) dX7_copies_122 rfl ?_
            refine X_top (sub_nI (a := cm_ (bk S) + 1) (b := 1) (by omega)) ?_
            exact Z_reti dX7_copies_123 (Or.inl rfl) (by unfold m_copies; rw [if_pos c8, if_pos c15, k8, k15, if_neg (fun q => by first | exact m37 q.1 | exact absurd h45 (Int32.not_lt.mpr q.2)), if_neg (by omega)]; exact ck_grow rfl hb1.1 hs1 ((congrFun (hfr 95 (by omega)) 0).trans h.2.2.2.2.2) (hfr.mono (fun b hb => by unfold inC; omega)) g111)
          · skip
            have c62 := b2i_t.mp h62
            refine X_aload_n (nx := 66) dX7_copies_65 rfl rfl rfl ?_
            refine X_bipush (v := -6) (nx := 68) dX7_copies_66 rfl rfl ?_
            refine Y_Vi1 (nx := 71) dX7_copies_68 rfl ml_RX7_51 kj_X7_refuse kv_X7_refuse (sp_X7_refuse (k := 6) rfl (by omega) (by omega)) (by first | assumption | rfl | decide | omega) (by first | assumption | rfl | decide | omega) (by decide) rfl (by first | decide | omega) (by exact Nat.le_of_ble_eq_true rfl) ?_
            exact Z_reti dX7_copies_71 (Or.inl rfl) (by unfold m_copies; rw [if_pos c8, if_pos c15, k8, if_neg (fun q => by first | exact m37 q.1 | exact absurd h45 (Int32.not_lt.mpr q.2)), if_pos (of_decide_eq_true c62)]; exact ck_no (k := 6) h Fr.rf (by omega) (by omega))
        · skip
          refine X_aload_n (nx := 49) dX7_copies_48 rfl rfl rfl ?_
          refine X_bipush (v := -3) (nx := 51) dX7_copies_49 rfl rfl ?_
          refine Y_Vi1 (nx := 54) dX7_copies_51 rfl ml_RX7_51 kj_X7_refuse kv_X7_refuse (sp_X7_refuse (k := 3) rfl (by omega) (by omega)) (by first | assumption | rfl | decide | omega) (by first | assumption | rfl | decide | omega) (by decide) rfl (by first | decide | omega) (by exact Nat.le_of_ble_eq_true rfl) ?_
          exact Z_reti dX7_copies_54 (Or.inl rfl) (by unfold m_copies; rw [if_pos c8, if_pos c15, k8, if_pos ⟨m37, Int32.not_lt.mp h45⟩]; exact ck_no (k := 3) h Fr.rf (by omega) (by omega))
    · skip
      have n15 := nb h15
      refine X_aload_n (nx := 19) dX7_copies_18 rfl rfl rfl ?_
      refine X_iconst (v := -1) (nx := 20) dX7_copies_19 rfl rfl ?_
      refine Y_Vi1 (nx := 23) dX7_copies_20 rfl ml_RX7_51 kj_X7_refuse kv_X7_refuse (sp_X7_refuse (k := 1) rfl (by omega) (by omega)) (by first | assumption | rfl | decide | omega) (by first | assumption | rfl | decide | omega) (by decide) rfl (by first | decide | omega) (by exact Nat.le_of_ble_eq_true rfl) ?_
      exact Z_reti dX7_copies_23 (Or.inl rfl) (by unfold m_copies; first | (rw [if_neg n8]; exact ck_no (k := 1) h Fr.rf (by omega) (by omega)) | (rw [if_pos c8, if_neg n15]; exact ck_no (k := 1) h Fr.rf (by omega) (by omega)))
theorem dX7_image_0 : decode cX7_image 0 = .ok (.aload_n 0, 1) := by decide +kernel
theorem dX7_image_1 : decode cX7_image 1 = .ok (.getfield 19, 3) := by decide +kernel
theorem dX7_image_4 : decode cX7_image 4 = .ok (.aload_n 0, 1) := by decide +kernel
theorem dX7_image_5 : decode cX7_image 5 = .ok (.getfield 10, 3) := by decide +kernel
theorem dX7_image_8 : decode cX7_image 8 = .ok (.invokevirtual 66, 3) := by decide +kernel
theorem dX7_image_11 : decode cX7_image 11 = .ok (.aload_n 0, 1) := by decide +kernel
theorem dX7_image_12 : decode cX7_image 12 = .ok (.iconst 1, 1) := by decide +kernel
theorem dX7_image_13 : decode cX7_image 13 = .ok (.putfield 259, 3) := by decide +kernel
theorem dX7_image_16 : decode cX7_image 16 = .ok (.aload_n 0, 1) := by decide +kernel
theorem dX7_image_17 : decode cX7_image 17 = .ok (.getfield 10, 3) := by decide +kernel
theorem dX7_image_20 : decode cX7_image 20 = .ok (.invokevirtual 125, 3) := by decide +kernel
theorem dX7_image_23 : decode cX7_image 23 = .ok (.invokestatic 129, 3) := by decide +kernel
theorem dX7_image_26 : decode cX7_image 26 = .ok (.ireturn, 1) := by decide +kernel
theorem ivb_on {D D1 : Mem} {S : St} (h : IVb D S) (hi : im S = true) (g : Enc D1 1 (kp S) ∧ ZB D1 1 ∧ Fr (inB 1) D D1) : IVb D1 (sB S (kp S)) := by
  obtain ⟨h1, h2, h3, h4, h5, h6, h7, h8⟩ := h
  refine ⟨g.1, (h3 hi).2, fun q => ⟨(h3 hi).1.fr (fun x hx => g.2.2 x (by unfold inB at hx; unfold inB; omega)), (h3 hi).2⟩, g.2.1, h5.fr (fun x hx => g.2.2 x (by unfold inB at hx; unfold inB; omega)), h6.fr (fun x hx => g.2.2 x (by unfold inB at hx; unfold inB; omega)), h8 hi, h8⟩
theorem ck_image {D D1 : Mem} {S : St} (h : INV1 D S) (g : Enc D1 53 (bk S) ∧ ZB D1 53 ∧ Fr (inB 53) D D1) : CK D (m_image S) (nI (pop (mkn (thN (bk S)) 10))) (up2 D1 0 9 1) := by
  obtain ⟨⟨h1, h2, h3, h4, h5, h6, h7, h8⟩, ⟨s1, s2, s3, s4, s5⟩, ht⟩ := h
  have hf : ∀ b, ¬ inB 53 b → b ≠ 0 → up2 D1 0 9 1 b = D b := fun b q1 q2 => by rw [up2_ne q2, g.2.2 b q1]
  refine ⟨rfl, ⟨⟨h1.fr (fun x hx => hf x (by unfold inB at hx; unfold inB; omega) (by unfold inB at hx; omega)), h2, fun _ => ⟨g.1.fr (fun x hx => up2_ne (by unfold inB at hx; omega)), h2⟩, h4.fr (fun x hx => hf x (by unfold inB at hx; unfold inB; omega) (by unfold inB at hx; omega)), h5.fr (fun x hx => hf x (by unfold inB at hx; unfold inB; omega) (by unfold inB at hx; omega)), g.2.1.fr (fun x hx => up2_ne (by unfold inB at hx; omega)), h7, fun _ => h7⟩, ⟨up2_same, s2.fr (hf _ (by unfold inB; omega) (by omega)) (hf _ (by unfold inB; omega) (by omega)), s3.fr (hf _ (by unfold inB; omega) (by omega)) (hf _ (by unfold inB; omega) (by omega)), ?_, s5⟩, ht.fr (fun b q1 q2 => hf b (by unfold inB; omega) (by omega)) (by rw [hf 95 (by unfold inB; omega) (by omega)])⟩, ?_⟩
  · rw [hf 103 (by unfold inB; omega) (by omega)]; exact s4
  · exact (g.2.2.mono (fun b hb => by unfold inB at hb; unfold inC; omega)).tr (Fr.up (by unfold inC; omega))
theorem sp_X7_image {S : St} {D : Mem} (h : INV1 D S) : Rix 4 j_X7_image [.ref 0] D (fun u D' => CK D (m_image S) u D') := by
  refine E.start 0 (ls := [some (.ref 0)]) (by decide +kernel) (Nat.le_of_ble_eq_true rfl) rfl (Nat.le_refl _) (Nat.le_refl _) ?_
  have hcm := h.1.2.1.2.1
  refine X_aload_n (nx := 1) dX7_image_0 rfl rfl rfl ?_
  refine M_getP (nx := 4) dX7_image_1 rfl fl_RX7_19 rfl (by first | assumption | rfl | decide | omega) (by first | assumption | rfl | decide | omega) (by first | assumption | rfl | decide | omega) ?_
  refine X_aload_n (nx := 5) dX7_image_4 rfl rfl rfl ?_
  refine M_getP (nx := 8) dX7_image_5 rfl fl_RX7_10 rfl (by first | assumption | rfl | decide | omega) (by first | assumption | rfl | decide | omega) (by first | assumption | rfl | decide | omega) ?_
  refine Z_Vv1 (nx := 11) dX7_image_8 rfl ml_RX7_66 kj_X0_copyFrom kv_X0_copyFrom (sp_X0_copyFrom (Or.inr (Or.inr rfl)) (Or.inl rfl) (by decide) h.1.1 h.1.2.2.2.1) (by first | assumption | rfl | decide | omega) (by first | assumption | rfl | decide | omega) (by decide) rfl (by first | decide | omega) (by exact Nat.le_of_ble_eq_true rfl) (fun D8 g8 => ?_)
  have hE1 : Enc (up2 D8 0 9 1) 1 (bk S) := h.1.1.fr (fun x hx => by unfold inB at hx; rw [up2_ne (by omega), g8.2.2 x (by unfold inB; omega)])
  refine X_aload_n (nx := 12) dX7_image_11 rfl rfl rfl ?_
  refine X_iconst (v := 1) (nx := 13) dX7_image_12 rfl rfl ?_
  refine M_putZ (nx := 16) dX7_image_13 rfl fl_RX7_259 rfl rfl (Or.inr rfl) (by first | assumption | rfl | decide | omega) (by first | assumption | rfl | decide | omega) ?_
  refine X_aload_n (nx := 17) dX7_image_16 rfl rfl rfl ?_
  refine M_getP (nx := 20) dX7_image_17 rfl fl_RX7_10 rfl (by first | assumption | rfl | decide | omega) (by first | assumption | rfl | decide | omega) (by first | assumption | rfl | decide | omega) ?_
  refine Y_Vi0 (nx := 23) dX7_image_20 rfl ml_RX7_125 kj_X0_thereBits kv_X0_thereBits (sp_X0_thereBits (Or.inl rfl) hE1) (by first | assumption | rfl | decide | omega) (by first | assumption | rfl | decide | omega) (by decide) rfl (by first | decide | omega) (by exact Nat.le_of_ble_eq_true rfl) ?_
  refine Y_Si1 (nx := 26) dX7_image_23 rfl ml_RX7_129 kj_J6_bitCount_0f7a4 ks_J6_bitCount_0f7a4 (sp_J6_bitCount_0f7a4 rfl (mkn_lt _ 10)) (by first | decide | omega) (by exact Nat.le_of_ble_eq_true rfl) ?_
  exact Z_reti dX7_image_26 (Or.inl rfl) (ck_image h g8)
theorem dX7_on_0 : decode cX7_on 0 = .ok (.aload_n 0, 1) := by decide +kernel
theorem dX7_on_1 : decode cX7_on 1 = .ok (.getfield 259, 3) := by decide +kernel
theorem dX7_on_4 : decode cX7_on 4 = .ok (.ifCond .ne 10, 3) := by decide +kernel
theorem dX7_on_7 : decode cX7_on 7 = .ok (.aload_n 0, 1) := by decide +kernel
theorem dX7_on_8 : decode cX7_on 8 = .ok (.bipush (-3), 2) := by decide +kernel
theorem dX7_on_10 : decode cX7_on 10 = .ok (.invokevirtual 51, 3) := by decide +kernel
theorem dX7_on_13 : decode cX7_on 13 = .ok (.ireturn, 1) := by decide +kernel
theorem dX7_on_14 : decode cX7_on 14 = .ok (.aload_n 0, 1) := by decide +kernel
theorem dX7_on_15 : decode cX7_on 15 = .ok (.getfield 10, 3) := by decide +kernel
theorem dX7_on_18 : decode cX7_on 18 = .ok (.aload_n 0, 1) := by decide +kernel
theorem dX7_on_19 : decode cX7_on 19 = .ok (.getfield 19, 3) := by decide +kernel
theorem dX7_on_22 : decode cX7_on 22 = .ok (.invokevirtual 66, 3) := by decide +kernel
theorem dX7_on_25 : decode cX7_on 25 = .ok (.aload_n 0, 1) := by decide +kernel
theorem dX7_on_26 : decode cX7_on 26 = .ok (.getfield 25, 3) := by decide +kernel
theorem dX7_on_29 : decode cX7_on 29 = .ok (.getfield 76, 3) := by decide +kernel
theorem dX7_on_32 : decode cX7_on 32 = .ok (.aload_n 0, 1) := by decide +kernel
theorem dX7_on_33 : decode cX7_on 33 = .ok (.getfield 10, 3) := by decide +kernel
theorem dX7_on_36 : decode cX7_on 36 = .ok (.invokevirtual 80, 3) := by decide +kernel
theorem dX7_on_39 : decode cX7_on 39 = .ok (.aload_n 0, 1) := by decide +kernel
theorem dX7_on_40 : decode cX7_on 40 = .ok (.getfield 10, 3) := by decide +kernel
theorem dX7_on_43 : decode cX7_on 43 = .ok (.invokevirtual 125, 3) := by decide +kernel
theorem dX7_on_46 : decode cX7_on 46 = .ok (.invokestatic 129, 3) := by decide +kernel
theorem dX7_on_49 : decode cX7_on 49 = .ok (.ireturn, 1) := by decide +kernel
theorem sp_X7_on {S : St} {D : Mem} (h : INV1 D S) : Rix 5 j_X7_on [.ref 0] D (fun u D' => CK D (m_on S) u D') := by
  refine E.start 0 (ls := [some (.ref 0)]) (by decide +kernel) (Nat.le_of_ble_eq_true rfl) rfl (Nat.le_refl _) (Nat.le_refl _) ?_
  have hcm := h.1.2.1.2.1
  refine X_aload_n (nx := 1) dX7_on_0 rfl rfl rfl ?_
  refine M_getI (nx := 4) dX7_on_1 rfl fl_RX7_259 rfl (by first | assumption | rfl | decide | omega) (by first | assumption | rfl | decide | omega) ?_
  refine X_if_ne (tgt := 14) (nx := 7) dX7_on_4 rfl rfl (fun h4 => ?_) (fun h4 => ?_)
  · skip
    have e4 : im S = true := by rw [h.2.1.1] at h4; exact b2i_t.mp h4
    refine X_aload_n (nx := 15) dX7_on_14 rfl rfl rfl ?_
    refine M_getP (nx := 18) dX7_on_15 rfl fl_RX7_10 rfl (by first | assumption | rfl | decide | omega) (by first | assumption | rfl | decide | omega) (by first | assumption | rfl | decide | omega) ?_
    refine X_aload_n (nx := 19) dX7_on_18 rfl rfl rfl ?_
    refine M_getP (nx := 22) dX7_on_19 rfl fl_RX7_19 rfl (by first | assumption | rfl | decide | omega) (by first | assumption | rfl | decide | omega) (by first | assumption | rfl | decide | omega) ?_
    refine Z_Vv1 (nx := 25) dX7_on_22 rfl ml_RX7_66 kj_X0_copyFrom kv_X0_copyFrom (sp_X0_copyFrom (Or.inl rfl) (Or.inr (Or.inr rfl)) (by decide) (h.1.2.2.1 e4).1 h.1.2.2.2.2.2.1) (by first | assumption | rfl | decide | omega) (by first | assumption | rfl | decide | omega) (by decide) rfl (by first | decide | omega) (by exact Nat.le_of_ble_eq_true rfl) (fun D22 g22 => ?_)
    refine X_aload_n (nx := 26) dX7_on_25 rfl rfl rfl ?_
    refine M_getP (nx := 29) dX7_on_26 rfl fl_RX7_25 rfl (by first | assumption | rfl | decide | omega) (by first | assumption | rfl | decide | omega) (by first | assumption | rfl | decide | omega) ?_
    refine M_getP (nx := 32) dX7_on_29 rfl fl_RX7_76 rfl (by first | assumption | rfl | decide | omega) (by first | assumption | rfl | decide | omega) (by first | assumption | rfl | decide | omega) ?_
    refine X_aload_n (nx := 33) dX7_on_32 rfl rfl rfl ?_
    refine M_getP (nx := 36) dX7_on_33 rfl fl_RX7_10 rfl (by first | assumption | rfl | decide | omega) (by first | assumption | rfl | decide | omega) (by first | assumption | rfl | decide | omega) ?_
    refine Z_Vv1 (nx := 39) dX7_on_36 rfl ml_RX7_80 kj_X5_grow kv_X5_grow (sp_X5_grow (B := kp S) g22.1 (h.1.2.2.1 e4).2) (by first | assumption | rfl | decide | omega) (by first | assumption | rfl | decide | omega) (by decide) rfl (by first | decide | omega) (by exact Nat.le_of_ble_eq_true rfl) (fun D36 g36 => ?_)
    refine X_aload_n (nx := 40) dX7_on_39 rfl rfl rfl ?_
    refine M_getP (nx := 43) dX7_on_40 rfl fl_RX7_10 rfl (by first | assumption | rfl | decide | omega) (by first | assumption | rfl | decide | omega) (by first | assumption | rfl | decide | omega) ?_
    refine Y_Vi0 (nx := 46) dX7_on_43 rfl ml_RX7_125 kj_X0_thereBits kv_X0_thereBits (sp_X0_thereBits (Or.inl rfl) (Enc.frT2 g22.1 g36.2)) (by first | assumption | rfl | decide | omega) (by first | assumption | rfl | decide | omega) (by decide) rfl (by first | decide | omega) (by exact Nat.le_of_ble_eq_true rfl) ?_
    refine Y_Si1 (nx := 49) dX7_on_46 rfl ml_RX7_129 kj_J6_bitCount_0f7a4 ks_J6_bitCount_0f7a4 (sp_J6_bitCount_0f7a4 rfl (mkn_lt _ 10)) (by first | decide | omega) (by exact Nat.le_of_ble_eq_true rfl) ?_
    exact Z_reti dX7_on_49 (Or.inl rfl) (by unfold m_on; rw [if_pos e4]; exact ck_grow rfl (ivb_on h.1 e4 g22) (ivs_fr h.2.1 (g22.2.2.mono (fun b hb => by unfold inB at hb; omega))) ((congrFun (g22.2.2 95 (by unfold inB; omega)) 0).trans h.2.2.2.2.2) (g22.2.2.mono (fun b hb => by unfold inB at hb; unfold inC; omega)) g36)
  · skip
    have e4 : im S = false := by rw [h.2.1.1] at h4; exact b2i_f.mp h4
    refine X_aload_n (nx := 8) dX7_on_7 rfl rfl rfl ?_
    refine X_bipush (v := -3) (nx := 10) dX7_on_8 rfl rfl ?_
    refine Y_Vi1 (nx := 13) dX7_on_10 rfl ml_RX7_51 kj_X7_refuse kv_X7_refuse (sp_X7_refuse (k := 3) rfl (by omega) (by omega)) (by first | assumption | rfl | decide | omega) (by first | assumption | rfl | decide | omega) (by decide) rfl (by first | decide | omega) (by exact Nat.le_of_ble_eq_true rfl) ?_
    exact Z_reti dX7_on_13 (Or.inl rfl) (by unfold m_on; rw [if_neg (by rw [e4]; decide)]; exact ck_no (k := 3) h Fr.rf (by omega) (by omega))
