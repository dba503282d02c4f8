/-! TOLD SIGNS: what they say -/
def dg_ (t : List Nat) (k : Nat) : Nat := t.getD k 0 - 48
def arS (t : List Nat) (st cl : Nat) (B : Bk) : Option Bk :=
  if dg_ t (st + 1) < 3 ∧ cm_ B < 10 then match rsg t (st + 3) (cl - (st + 3)) [] with
    | none => none
    | some s => if t.getD st 0 = 109 then (if pl s < s.length then none else some (addB B (dg_ t (st + 1)) (-9) (nI (dg_ t (st + 2))) s)) else some (addB B (dg_ t (st + 1)) (nI (dg_ t (st + 2))) (-9) s)
  else none
def obS (t : List Nat) (st cl : Nat) (B : Bk) : Option Bk :=
  if t.getD st 0 = 114 then (if dg_ t (st + 2) < 4 then arS t st cl B else none)
  else if t.getD st 0 = 109 then (if dg_ t (st + 2) < 3 ∧ dg_ t (st + 1) < dg_ t (st + 2) then arS t st cl B else none)
  else if t.getD st 0 = 107 then (if dg_ t (st + 1) < 3 ∧ dg_ t (st + 2) < 6 then some (setK B (dg_ t (st + 1)) (dg_ t (st + 2)) (dg_ t (st + 3))) else none)
  else (if thN B (dg_ t (st + 1)) = true then some (setT B (dg_ t (st + 1))) else none)
/-- from place i on, m signs; the statement begins at st, n are through: the answer, and the book if all is so -/
def rdS (t : List Nat) : Nat → Nat → Nat → Nat → Bk → Int32 × Option Bk
  | _, 0, _, n, B => (nI n, some B)
  | i, m + 1, st, n, B => if t.getD i 0 = 59 then (match obS t st i B with
      | none => (-2000 - nI st, none)
      | some B' => rdS t (i + 1) m (i + 1) (n + 1) B') else rdS t (i + 1) m st n B
/-- the signs of a statement -/
def stm (t : List Nat) (st cl : Nat) : Prop := cl < t.length ∧ st + 2 < t.length ∧ (48 ≤ t.getD (st + 1) 0 ∧ t.getD (st + 1) 0 ≤ 57) ∧ 48 ≤ t.getD (st + 2) 0 ∧
  (((t.getD st 0 = 114 ∨ t.getD st 0 = 109) ∧ t.getD (st + 2) 0 ≤ 57 ∧ st + 3 ≤ cl ∧ ∀ k, st + 3 ≤ k → k < cl → t.getD k 0 = 47 → sfm t k) ∨
   (t.getD st 0 = 107 ∧ t.getD (st + 2) 0 ≤ 57 ∧ st + 3 < t.length ∧ 48 ≤ t.getD (st + 3) 0 ∧ t.getD (st + 3) 0 ≤ 57) ∨ t.getD st 0 = 120)
/-- what a statement leaves in the trial book -/
def OB (D D' : Mem) (u : Int32) (o : Option Bk) : Prop := Fr (inB 27) D D' ∧ ZB D' 27 ∧ match o with
  | none => u = 0
  | some B => u = 1 ∧ Enc D' 27 B ∧ VB B ∧ PDB B
theorem OB.no {D D' : Mem} (h : Fr (inB 27) D D') (hz : ZB D' 27) : OB D D' 0 none := ⟨h, hz, rfl⟩
theorem isR_27 : ∀ i, i < 10 → isR (rt 27 i) := fun i hi => ((isB.facts (b := 27) (Or.inr (Or.inl rfl))).2.2.2.2.2.2 i hi).2
theorem rt_in {i : Nat} (hi : i < 10) : ∀ b, (b = rt 27 i ∨ b = rt 27 i + 1) → inB 27 b := fun b hb => by unfold rt at hb; unfold inB; omega
theorem enc_draft {D D' : Mem} {B : Bk} (h : Enc D 27 B) (hf : Fr (fun b => b = rt 27 (cm_ B) ∨ b = rt 27 (cm_ B) + 1) D D') : Enc D' 27 B := by
  obtain ⟨h1, h2, h3, h4⟩ := h
  refine ⟨fun i hi => ?_, ?_, h3, fun i hi => (h4 i hi).fr (hf _ (by unfold rt; omega)) (hf _ (by unfold rt; omega))⟩
  · rw [hf _ (by unfold rt; omega), hf _ (by unfold rt; omega)]; exact h1 i hi
  · rw [hf _ (by unfold rt; omega)]; exact h2
theorem zb_draft {D D' : Mem} {r : Nat} (h : ZB D 27) (hf : Fr (fun b => b = rt 27 r ∨ b = rt 27 r + 1) D D') (h6 : D' (rt 27 r) 6 = D (rt 27 r) 6) (hr : r < 10) : ZB D' 27 := by
  intro i hi
  by_cases e : i = r
  · subst e; rw [h6]; exact h i hi
  · rw [hf _ (by unfold rt; omega)]; exact h i hi
theorem decI {a b : Nat} (ha : a < 2147483648) (hb : b < 2147483648) : decide (0 ≤ nI a ∧ nI a < nI b) = decide (a < b) := decide_eq_decide.mpr ⟨fun q => (nI_ltI ha hb).mp q.2, fun q => ⟨nI_pos' ha, (nI_ltI ha hb).mpr q⟩⟩
theorem dI3 {a : Nat} (ha : a < 2147483648) : decide (0 ≤ nI a ∧ nI a < 3) = decide (a < 3) := decI (b := 3) ha (by decide)
theorem dI4 {a : Nat} (ha : a < 2147483648) : decide (0 ≤ nI a ∧ nI a < 4) = decide (a < 4) := decI (b := 4) ha (by decide)
theorem zb_T {D : Mem} {a : Nat} (hz : ZB D 27) : ZB (up2 D (rt 27 a) 6 0) 27 := by
  intro i hi
  by_cases e : i = a
  · subst e; rw [up2_same]; exact Or.inl rfl
  · rw [up2_ne (by unfold rt; omega)]; exact hz i hi
def adD3 (D : Mem) (r : Nat) (x v m : Int32) : Mem := up2 (up2 (up2 D r 3 x) r 4 v) r 5 m
theorem adD3_fr {D : Mem} {r : Nat} {x v m : Int32} : Fr (fun b => b = r ∨ b = r + 1) D (adD3 D r x v m) := ((Fr.up (Or.inl rfl)).tr (Fr.up (Or.inl rfl))).tr (Fr.up (Or.inl rfl))
theorem adD3_at {D : Mem} {r : Nat} {x v m : Int32} : adD3 D r x v m r 3 = x ∧ adD3 D r x v m r 4 = v ∧ adD3 D r x v m r 5 = m ∧ adD3 D r x v m r 6 = D r 6 := by
  unfold adD3
  exact ⟨by rw [up2_other (by omega), up2_other (by omega), up2_same], by rw [up2_other (by omega), up2_same], up2_same, by rw [up2_other (by omega), up2_other (by omega), up2_other (by omega)]⟩
theorem ar_no {D D' : Mem} {B : Bk} {x v m u : Int32} {o : Option (List Nat)} (hl : cm_ B < 10) (hz : ZB D 27) (g : RSG (adD3 D (rt 27 (cm_ B)) x v m) D' (rt 27 (cm_ B)) u o) : Fr (inB 27) D D' ∧ ZB D' 27 := by
  have hf := (adD3_fr (D := D) (r := rt 27 (cm_ B)) (x := x) (v := v) (m := m)).tr g.1
  exact ⟨hf.mono (rt_in hl), zb_draft hz hf ((g.2.1 6 (by omega)).trans adD3_at.2.2.2) hl⟩
theorem ar_yes {D D' : Mem} {B : Bk} {R : Nat} {v m : Int32} {s : List Nat} {u : Int32} (hl : cm_ B < 10) (hE : Enc D 27 B) (hV : VB B) (hPB : PDB B) (hz : ZB D 27) (hR : R < 3) (hx : (m = -9 ∧ ∃ w, w < 4 ∧ v = nI w) ∨ (v = -9 ∧ ∃ w, m = nI w ∧ R < w ∧ w < 3 ∧ pl s = s.length)) (g : RSG (adD3 D (rt 27 (cm_ B)) (nI R) v m) D' (rt 27 (cm_ B)) u (some s)) : OB D (up2 (up2 D' (rt 27 (cm_ B)) 6 1) 27 4 (nI (cm_ B + 1))) 1 (some (addB B R v m s)) := by
  obtain ⟨g1, g2, g3, g4, g5, g6⟩ := g
  have hf := (adD3_fr (D := D) (r := rt 27 (cm_ B)) (x := nI R) (v := v) (m := m)).tr g1
  refine ⟨((hf.mono (rt_in hl)).tr (Fr.up (rt_in hl _ (Or.inl rfl)))).tr (Fr.up (by unfold inB; omega)), fun i hi => ?_, rfl, enc_add hE hl ?_ ?_ up2_same (fun i hi => ?_) ⟨?_, ?_, ?_, ?_, g4.1, ?_, ?_, fun k hk => ?_, g4.2.2.2.2⟩, VB_add hV hl hR g5 hx, PDB_add hPB g6⟩
  · rw [up2_ne (by unfold rt; omega)]
    by_cases e : i = cm_ B
    · subst e; rw [up2_same]; exact Or.inr rfl
    · rw [up2_ne (by unfold rt; omega), hf _ (by unfold rt; omega)]; exact hz i hi
  · rw [up2_ne (by omega), up2_ne (by unfold rt; omega), hf _ (by unfold rt; omega)]
  · rw [up2_ne (by omega), up2_ne (by unfold rt; omega), hf _ (by unfold rt; omega)]
  · rw [up2_ne (by unfold rt; omega), up2_ne (by unfold rt; omega), hf _ (by unfold rt; omega), up2_ne (by unfold rt; omega), up2_ne (by unfold rt; omega), hf _ (by unfold rt; omega)]
    exact ⟨rfl, rfl⟩
  · rw [up2_ne (by unfold rt; omega), up2_same]; rfl
  · rw [up2_ne (by unfold rt; omega), up2_other (by omega), g2 3 (by omega)]; exact adD3_at.1
  · rw [up2_ne (by unfold rt; omega), up2_other (by omega), g2 4 (by omega)]; exact adD3_at.2.1
  · rw [up2_ne (by unfold rt; omega), up2_other (by omega), g2 5 (by omega)]; exact adD3_at.2.2.1
  · rw [up2_ne (by unfold rt; omega), up2_other (by omega)]; exact g4.2.1
  · rw [up2_ne (by unfold rt; omega), up2_other (by omega)]; exact g4.2.2.1
  · rw [up2_ne (by unfold rt; omega), up2_ne (by omega)]; exact g4.2.2.2.1 k hk
theorem RSG.n0 {D D' : Mem} {r : Nat} {u : Int32} {o : Option (List Nat)} (h : RSG D D' r u o) (hu : u = 0) : o = none := by
  cases o with
  | none => rfl
  | some s => exact absurd (h.2.2.1.symm.trans hu) (by decide)
theorem RSG.n1 {D D' : Mem} {r : Nat} {u : Int32} {o : Option (List Nat)} (h : RSG D D' r u o) (hu : ¬ u = 0) : ∃ s, o = some s ∧ SEG D' r s := by
  cases o with
  | none => exact absurd h.2.2 hu
  | some s => exact ⟨s, rfl, h.2.2.2.1⟩
theorem dX3_addRoute_0 : decode cX3_addRoute 0 = .ok (.aload_n 0, 1) := by decide +kernel
theorem dX3_addRoute_1 : decode cX3_addRoute 1 = .ok (.iload_n 1, 1) := by decide +kernel
theorem dX3_addRoute_2 : decode cX3_addRoute 2 = .ok (.iconst 1, 1) := by decide +kernel
theorem dX3_addRoute_3 : decode cX3_addRoute 3 = .ok (.iadd, 1) := by decide +kernel
theorem dX3_addRoute_4 : decode cX3_addRoute 4 = .ok (.invokevirtual 21, 3) := by decide +kernel
theorem dX3_addRoute_7 : decode cX3_addRoute 7 = .ok (.bipush 48, 2) := by decide +kernel
theorem dX3_addRoute_9 : decode cX3_addRoute 9 = .ok (.isub, 1) := by decide +kernel
theorem dX3_addRoute_10 : decode cX3_addRoute 10 = .ok (.istore 4, 2) := by decide +kernel
theorem dX3_addRoute_12 : decode cX3_addRoute 12 = .ok (.aload_n 0, 1) := by decide +kernel
theorem dX3_addRoute_13 : decode cX3_addRoute 13 = .ok (.iload_n 1, 1) := by decide +kernel
theorem dX3_addRoute_14 : decode cX3_addRoute 14 = .ok (.iconst 2, 1) := by decide +kernel
theorem dX3_addRoute_15 : decode cX3_addRoute 15 = .ok (.iadd, 1) := by decide +kernel
theorem dX3_addRoute_16 : decode cX3_addRoute 16 = .ok (.invokevirtual 21, 3) := by decide +kernel
theorem dX3_addRoute_19 : decode cX3_addRoute 19 = .ok (.bipush 48, 2) := by decide +kernel
theorem dX3_addRoute_21 : decode cX3_addRoute 21 = .ok (.isub, 1) := by decide +kernel
theorem dX3_addRoute_22 : decode cX3_addRoute 22 = .ok (.istore 5, 2) := by decide +kernel
theorem dX3_addRoute_24 : decode cX3_addRoute 24 = .ok (.aload_n 0, 1) := by decide +kernel
theorem dX3_addRoute_25 : decode cX3_addRoute 25 = .ok (.iload_n 1, 1) := by decide +kernel
theorem dX3_addRoute_26 : decode cX3_addRoute 26 = .ok (.invokevirtual 21, 3) := by decide +kernel
theorem dX3_addRoute_29 : decode cX3_addRoute 29 = .ok (.bipush 109, 2) := by decide +kernel
theorem dX3_addRoute_31 : decode cX3_addRoute 31 = .ok (.if_icmp .ne 7, 3) := by decide +kernel
theorem dX3_addRoute_34 : decode cX3_addRoute 34 = .ok (.iconst 1, 1) := by decide +kernel
theorem dX3_addRoute_35 : decode cX3_addRoute 35 = .ok (.goto 4, 3) := by decide +kernel
theorem dX3_addRoute_38 : decode cX3_addRoute 38 = .ok (.iconst 0, 1) := by decide +kernel
theorem dX3_addRoute_39 : decode cX3_addRoute 39 = .ok (.istore 6, 2) := by decide +kernel
theorem dX3_addRoute_41 : decode cX3_addRoute 41 = .ok (.iload 4, 2) := by decide +kernel
theorem dX3_addRoute_43 : decode cX3_addRoute 43 = .ok (.invokestatic 52, 3) := by decide +kernel
theorem dX3_addRoute_46 : decode cX3_addRoute 46 = .ok (.ifCond .eq 10, 3) := by decide +kernel
theorem dX3_addRoute_49 : decode cX3_addRoute 49 = .ok (.aload_n 3, 1) := by decide +kernel
theorem dX3_addRoute_50 : decode cX3_addRoute 50 = .ok (.invokevirtual 63, 3) := by decide +kernel
theorem dX3_addRoute_53 : decode cX3_addRoute 53 = .ok (.ifCond .eq 5, 3) := by decide +kernel
theorem dX3_addRoute_56 : decode cX3_addRoute 56 = .ok (.iconst 0, 1) := by decide +kernel
theorem dX3_addRoute_57 : decode cX3_addRoute 57 = .ok (.ireturn, 1) := by decide +kernel
theorem dX3_addRoute_58 : decode cX3_addRoute 58 = .ok (.aload_n 3, 1) := by decide +kernel
theorem dX3_addRoute_59 : decode cX3_addRoute 59 = .ok (.invokevirtual 69, 3) := by decide +kernel
theorem dX3_addRoute_62 : decode cX3_addRoute 62 = .ok (.astore 7, 2) := by decide +kernel
theorem dX3_addRoute_64 : decode cX3_addRoute 64 = .ok (.aload 7, 2) := by decide +kernel
theorem dX3_addRoute_66 : decode cX3_addRoute 66 = .ok (.iload 4, 2) := by decide +kernel
theorem dX3_addRoute_68 : decode cX3_addRoute 68 = .ok (.putfield 73, 3) := by decide +kernel
theorem dX3_addRoute_71 : decode cX3_addRoute 71 = .ok (.aload 7, 2) := by decide +kernel
theorem dX3_addRoute_73 : decode cX3_addRoute 73 = .ok (.iload 6, 2) := by decide +kernel
theorem dX3_addRoute_75 : decode cX3_addRoute 75 = .ok (.ifCond .eq 8, 3) := by decide +kernel
theorem dX3_addRoute_78 : decode cX3_addRoute 78 = .ok (.bipush (-9), 2) := by decide +kernel
theorem dX3_addRoute_80 : decode cX3_addRoute 80 = .ok (.goto 5, 3) := by decide +kernel
theorem dX3_addRoute_83 : decode cX3_addRoute 83 = .ok (.iload 5, 2) := by decide +kernel
theorem dX3_addRoute_85 : decode cX3_addRoute 85 = .ok (.putfield 78, 3) := by decide +kernel
theorem dX3_addRoute_88 : decode cX3_addRoute 88 = .ok (.aload 7, 2) := by decide +kernel
theorem dX3_addRoute_90 : decode cX3_addRoute 90 = .ok (.iload 6, 2) := by decide +kernel
theorem dX3_addRoute_92 : decode cX3_addRoute 92 = .ok (.ifCond .eq 8, 3) := by decide +kernel
theorem dX3_addRoute_95 : decode cX3_addRoute 95 = .ok (.iload 5, 2) := by decide +kernel
theorem dX3_addRoute_97 : decode cX3_addRoute 97 = .ok (.goto 5, 3) := by decide +kernel
theorem dX3_addRoute_100 : decode cX3_addRoute 100 = .ok (.bipush (-9), 2) := by decide +kernel
theorem dX3_addRoute_102 : decode cX3_addRoute 102 = .ok (.putfield 81, 3) := by decide +kernel
theorem dX3_addRoute_105 : decode cX3_addRoute 105 = .ok (.aload_n 0, 1) := by decide +kernel
theorem dX3_addRoute_106 : decode cX3_addRoute 106 = .ok (.iload_n 1, 1) := by decide +kernel
theorem dX3_addRoute_107 : decode cX3_addRoute 107 = .ok (.iconst 3, 1) := by decide +kernel
theorem dX3_addRoute_108 : decode cX3_addRoute 108 = .ok (.iadd, 1) := by decide +kernel
theorem dX3_addRoute_109 : decode cX3_addRoute 109 = .ok (.iload_n 2, 1) := by decide +kernel
theorem dX3_addRoute_110 : decode cX3_addRoute 110 = .ok (.aload 7, 2) := by decide +kernel
theorem dX3_addRoute_112 : decode cX3_addRoute 112 = .ok (.invokestatic 84, 3) := by decide +kernel
theorem dX3_addRoute_115 : decode cX3_addRoute 115 = .ok (.ifCond .eq 16, 3) := by decide +kernel
theorem dX3_addRoute_118 : decode cX3_addRoute 118 = .ok (.iload 6, 2) := by decide +kernel
theorem dX3_addRoute_120 : decode cX3_addRoute 120 = .ok (.ifCond .eq 13, 3) := by decide +kernel
theorem dX3_addRoute_123 : decode cX3_addRoute 123 = .ok (.aload 7, 2) := by decide +kernel
theorem dX3_addRoute_125 : decode cX3_addRoute 125 = .ok (.invokevirtual 88, 3) := by decide +kernel
theorem dX3_addRoute_128 : decode cX3_addRoute 128 = .ok (.ifCond .eq 5, 3) := by decide +kernel
theorem dX3_addRoute_131 : decode cX3_addRoute 131 = .ok (.iconst 0, 1) := by decide +kernel
theorem dX3_addRoute_132 : decode cX3_addRoute 132 = .ok (.ireturn, 1) := by decide +kernel
theorem dX3_addRoute_133 : decode cX3_addRoute 133 = .ok (.aload_n 3, 1) := by decide +kernel
theorem dX3_addRoute_134 : decode cX3_addRoute 134 = .ok (.invokevirtual 91, 3) := by decide +kernel
theorem dX3_addRoute_137 : decode cX3_addRoute 137 = .ok (.iconst 1, 1) := by decide +kernel
theorem dX3_addRoute_138 : decode cX3_addRoute 138 = .ok (.ireturn, 1) := by decide +kernel
theorem sp_X3_addRoute {t : List Nat} {st cl : Nat} {B : Bk} {x y : Int32} {D : Mem} (hP : PIL D 96 t) (h256 : ∀ x ∈ t, x < 256) (hl : t.length < 200) (hE : Enc D 27 B) (hV : VB B) (hPB : PDB B) (hz : ZB D 27) (hx : x = nI st) (hy : y = nI cl) (hs : stm t st cl) (hk : (t.getD st 0 = 114 ∧ dg_ t (st + 2) < 4) ∨ (t.getD st 0 = 109 ∧ dg_ t (st + 2) < 3 ∧ dg_ t (st + 1) < dg_ t (st + 2))) : Rix 4 j_X3_addRoute [.ref 96, .int x, .int y, .ref 27] D (fun u D' => OB D D' u (arS t st cl B)) := by
  refine E.start 4 (ls := [some (.ref 96), some (.int x), some (.int y), some (.ref 27), none, none, none, none]) (by decide +kernel) (Nat.le_of_ble_eq_true rfl) rfl (Nat.le_refl _) (Nat.le_refl _) ?_
  subst hx; subst hy
  obtain ⟨s1, s2, s3, s4, s5⟩ := hs
  have hstl : st < t.length := by omega
  have b0 : t.getD st 0 < 256 := getD_lt h256 (by omega)
  have b1 : t.getD (st + 1) 0 < 256 := getD_lt h256 (by omega)
  have b2 : t.getD (st + 2) 0 < 256 := getD_lt h256 (by omega)
  have s6 : t.getD (st + 2) 0 ≤ 57 ∧ st + 3 ≤ cl ∧ ∀ k, st + 3 ≤ k → k < cl → t.getD k 0 = 47 → sfm t k := by
    rcases s5 with q | q | q
    · exact q.2
    · omega
    · omega
  refine X_aload_n (nx := 1) dX3_addRoute_0 rfl rfl rfl ?_
  refine X_iload_n (nx := 2) dX3_addRoute_1 rfl rfl rfl ?_
  refine X_iconst (v := nI 1) (nx := 3) dX3_addRoute_2 rfl rfl ?_
  refine X_iadd (nx := 4) dX3_addRoute_3 rfl ?_
  refine Y_Vi1 (nx := 7) dX3_addRoute_4 rfl ml_RX3_21 kj_X2_at kv_X2_at (sp_X2_at (Or.inl rfl) hP (nI_add _ _) (by omega)) (by first | assumption | rfl | decide | omega) (by first | assumption | rfl | decide | omega) (by decide) rfl (by first | decide | omega) (by exact Nat.le_of_ble_eq_true rfl) ?_
  refine X_bipush (v := nI 48) (nx := 9) dX3_addRoute_7 rfl rfl ?_
  refine X_isub (nx := 10) dX3_addRoute_9 rfl ?_
  refine X_top (show _ = nI (dg_ t (st + 1)) from sub_nI (by omega)) ?_
  refine X_istore (i := 4) (nx := 12) dX3_addRoute_10 rfl (by decide) rfl (st_s (st_s (st_s (st_s (st_0))))) ?_
  refine X_aload_n (nx := 13) dX3_addRoute_12 rfl rfl rfl ?_
  refine X_iload_n (nx := 14) dX3_addRoute_13 rfl rfl rfl ?_
  refine X_iconst (v := nI 2) (nx := 15) dX3_addRoute_14 rfl rfl ?_
  refine X_iadd (nx := 16) dX3_addRoute_15 rfl ?_
  refine Y_Vi1 (nx := 19) dX3_addRoute_16 rfl ml_RX3_21 kj_X2_at kv_X2_at (sp_X2_at (Or.inl rfl) hP (nI_add _ _) (by omega)) (by first | assumption | rfl | decide | omega) (by first | assumption | rfl | decide | omega) (by decide) rfl (by first | decide | omega) (by exact Nat.le_of_ble_eq_true rfl) ?_
  refine X_bipush (v := nI 48) (nx := 21) dX3_addRoute_19 rfl rfl ?_
  refine X_isub (nx := 22) dX3_addRoute_21 rfl ?_
  refine X_top (show _ = nI (dg_ t (st + 2)) from sub_nI (by omega)) ?_
  refine X_istore (i := 5) (nx := 24) dX3_addRoute_22 rfl (by decide) rfl (st_s (st_s (st_s (st_s (st_s (st_0)))))) ?_
  refine X_aload_n (nx := 25) dX3_addRoute_24 rfl rfl rfl ?_
  refine X_iload_n (nx := 26) dX3_addRoute_25 rfl rfl rfl ?_
  refine Y_Vi1 (nx := 29) dX3_addRoute_26 rfl ml_RX3_21 kj_X2_at kv_X2_at (sp_X2_at (Or.inl rfl) hP rfl hstl) (by first | assumption | rfl | decide | omega) (by first | assumption | rfl | decide | omega) (by decide) rfl (by first | decide | omega) (by exact Nat.le_of_ble_eq_true rfl) ?_
  refine X_bipush (v := nI 109) (nx := 31) dX3_addRoute_29 rfl rfl ?_
  refine X_icmp_ne (tgt := 38) (nx := 34) dX3_addRoute_31 rfl rfl (fun h31 => ?_) (fun h31 => ?_)
  · skip
    rw [nI_eq (by omega) (by omega)] at h31
    refine X_iconst (v := 0) (nx := 39) dX3_addRoute_38 rfl rfl ?_
    refine X_istore (i := 6) (nx := 41) dX3_addRoute_39 rfl (by decide) rfl (st_s (st_s (st_s (st_s (st_s (st_s (st_0))))))) ?_
    refine X_iload (nx := 43) dX3_addRoute_41 rfl rfl ?_
    refine Y_Si1 (nx := 46) dX3_addRoute_43 rfl ml_RX3_52 kj_X7_isRouter ks_X7_isRouter (sp_X7_isRouter) (by first | decide | omega) (by exact Nat.le_of_ble_eq_true rfl) ?_
    refine X_top (congrArg b2i (dI3 (by unfold dg_; omega))) ?_
    refine X_if_eq (tgt := 56) (nx := 49) dX3_addRoute_46 rfl rfl (fun h46 => ?_) (fun h46 => ?_)
    · skip
      have n46 := nb h46
      refine X_iconst (v := 0) (nx := 57) dX3_addRoute_56 rfl rfl ?_
      exact Z_reti dX3_addRoute_57 (Or.inr ⟨rfl, by first | exact Or.inl rfl | exact Or.inr rfl | exact b2i_01 _ | assumption⟩) (by unfold arS; rw [if_neg (fun q => by first | exact n46 (decide_eq_true q.1) | (have := of_decide_eq_true c53; omega))]; exact OB.no Fr.rf hz)
    · skip
      have c46 := b2i_t.mp h46
      refine X_aload_n (nx := 50) dX3_addRoute_49 rfl rfl rfl ?_
      refine Y_Vi0 (nx := 53) dX3_addRoute_50 rfl ml_RX3_63 kj_X0_isFull kv_X0_isFull (sp_X0_isFull (Or.inr (Or.inl rfl)) hE) (by first | assumption | rfl | decide | omega) (by first | assumption | rfl | decide | omega) (by decide) rfl (by first | decide | omega) (by exact Nat.le_of_ble_eq_true rfl) ?_
      refine X_if_eq (tgt := 58) (nx := 56) dX3_addRoute_53 rfl rfl (fun h53 => ?_) (fun h53 => ?_)
      · skip
        have n53 := nb h53
        have hcl : cm_ B < 10 := Nat.not_le.mp (fun q => n53 (decide_eq_true q))
        have hr := isR_27 _ hcl
        have hr1 := hr.1
        have hr2 := hr.2
        have hac : dg_ t (st + 1) < 3 ∧ cm_ B < 10 := ⟨of_decide_eq_true c46, hcl⟩
        refine X_aload_n (nx := 59) dX3_addRoute_58 rfl rfl rfl ?_
        refine Y_Vr0 (nx := 62) dX3_addRoute_59 rfl ml_RX3_69 kj_X0_draft kv_X0_draft (sp_X0_draft (Or.inr (Or.inl rfl)) hE hcl) (by first | assumption | rfl | decide | omega) (by first | assumption | rfl | decide | omega) (by decide) rfl (by first | decide | omega) (by exact Nat.le_of_ble_eq_true rfl) ?_
        refine X_astore (i := 7) (nx := 64) dX3_addRoute_62 rfl (by decide) rfl (st_s (st_s (st_s (st_s (st_s (st_s (st_s (st_0)))))))) ?_
        refine X_aload (nx := 66) dX3_addRoute_64 rfl rfl ?_
        refine X_iload (nx := 68) dX3_addRoute_66 rfl rfl ?_
        refine M_putI (nx := 71) dX3_addRoute_68 rfl fl_RX3_73 rfl rfl (by first | assumption | rfl | decide | omega) (by first | assumption | rfl | decide | omega) ?_
        refine X_aload (nx := 73) dX3_addRoute_71 rfl rfl ?_
        refine X_iload (nx := 75) dX3_addRoute_73 rfl rfl ?_
        refine X_if_eq (tgt := 83) (nx := 78) dX3_addRoute_75 rfl rfl (fun h75 => ?_) (fun h75 => ?_)
        · skip
          refine X_iload (nx := 85) dX3_addRoute_83 rfl rfl ?_
          refine M_putI (nx := 88) dX3_addRoute_85 rfl fl_RX3_78 rfl rfl (by first | assumption | rfl | decide | omega) (by first | assumption | rfl | decide | omega) ?_
          refine X_aload (nx := 90) dX3_addRoute_88 rfl rfl ?_
          refine X_iload (nx := 92) dX3_addRoute_90 rfl rfl ?_
          refine X_if_eq (tgt := 100) (nx := 95) dX3_addRoute_92 rfl rfl (fun h92 => ?_) (fun h92 => ?_)
          · skip
            refine X_bipush (v := -9) (nx := 102) dX3_addRoute_100 rfl rfl ?_
            refine M_putI (nx := 105) dX3_addRoute_102 rfl fl_RX3_81 rfl rfl (by first | assumption | rfl | decide | omega) (by first | assumption | rfl | decide | omega) ?_
            refine X_aload_n (nx := 106) dX3_addRoute_105 rfl rfl rfl ?_
            refine X_iload_n (nx := 107) dX3_addRoute_106 rfl rfl rfl ?_
            refine X_iconst (v := nI 3) (nx := 108) dX3_addRoute_107 rfl rfl ?_
            refine X_iadd (nx := 109) dX3_addRoute_108 rfl ?_
            refine X_iload_n (nx := 110) dX3_addRoute_109 rfl rfl rfl ?_
            refine X_aload (nx := 112) dX3_addRoute_110 rfl rfl ?_
            refine Z_Si4 (nx := 115) dX3_addRoute_112 rfl ml_RX3_84 kj_X3_readSegments ks_X3_readSegments (sp_X3_readSegments (D := adD3 D (rt 27 (cm_ B)) _ _ _) (nI_add st 3) rfl hr h256 hl s6.2.1 (by omega) (hP.fr (adD3_fr 96 (by unfold rt; omega)) (adD3_fr 97 (by unfold rt; omega))) (by unfold rt; omega) s6.2.2) (by first | decide | omega) (by exact Nat.le_of_ble_eq_true rfl) (fun u112 D112 g112 => ?_)
            refine X_if_eq (tgt := 131) (nx := 118) dX3_addRoute_115 rfl rfl (fun h115 => ?_) (fun h115 => ?_)
            · skip
              refine X_iconst (v := 0) (nx := 132) dX3_addRoute_131 rfl rfl ?_
              exact Z_reti dX3_addRoute_132 (Or.inr ⟨rfl, by first | exact Or.inl rfl | exact Or.inr rfl | exact b2i_01 _ | assumption⟩) (by have hno := ar_no hcl hz g112; unfold arS; rw [if_pos hac]; first | (rw [g112.n0 h115]; exact OB.no hno.1 hno.2) | (rw [hsg.1]; show OB D D112 0 (if t.getD st 0 = 109 then _ else _); rw [if_pos h31, if_pos (of_decide_eq_true (b2i_t.mp h128))]; exact OB.no hno.1 hno.2))
            · skip
              obtain ⟨s, hsg⟩ := g112.n1 h115
              refine X_iload (nx := 120) dX3_addRoute_118 rfl rfl ?_
              refine X_if_eq (tgt := 133) (nx := 123) dX3_addRoute_120 rfl rfl (fun h120 => ?_) (fun h120 => ?_)
              · skip
                refine X_aload_n (nx := 134) dX3_addRoute_133 rfl rfl rfl ?_
                refine Y_Vv0 (nx := 137) dX3_addRoute_134 rfl ml_RX3_91 kj_X0_addDraft kv_X0_addDraft (sp_X0_addDraft (Or.inr (Or.inl rfl)) (enc_draft hE (adD3_fr.tr g112.1)) hcl) (by first | assumption | rfl | decide | omega) (by first | assumption | rfl | decide | omega) (by decide) rfl (by first | decide | omega) (by exact Nat.le_of_ble_eq_true rfl) ?_
                refine X_iconst (v := 1) (nx := 138) dX3_addRoute_137 rfl rfl ?_
                exact Z_reti dX3_addRoute_138 (Or.inr ⟨rfl, by first | exact Or.inl rfl | exact Or.inr rfl | exact b2i_01 _ | assumption⟩) (by
                  unfold arS
                  rw [if_pos hac, hsg.1]
                  show OB D _ 1 (if t.getD st 0 = 109 then _ else _)
                  rw [hsg.1] at g112
                  first
                  | (rw [if_neg h31]
                     exact ar_yes hcl hE hV hPB hz hac.1 (Or.inl ⟨rfl, _, (hk.elim (fun q => q.2) (fun q => absurd q.1 h31)), rfl⟩) g112)
                  | (have hk2 := hk.elim (fun q => absurd (q.1.symm.trans h31) (by decide)) id
                     have hpl : ¬ pl s < s.length := fun q => n128 (decide_eq_true q)
                     have := pl_le s
                     rw [if_pos h31, if_neg hpl]
                     exact ar_yes hcl hE hV hPB hz hac.1 (Or.inr ⟨rfl, _, rfl, hk2.2.2, hk2.2.1, by omega⟩) g112))
              · exact absurd h120 (by decide)
          · exact absurd h92 (by decide)
        · exact absurd h75 (by decide)
      · skip
        have c53 := b2i_t.mp h53
        refine X_iconst (v := 0) (nx := 57) dX3_addRoute_56 rfl rfl ?_
        exact Z_reti dX3_addRoute_57 (Or.inr ⟨rfl, by first | exact Or.inl rfl | exact Or.inr rfl | exact b2i_01 _ | assumption⟩) (by unfold arS; rw [if_neg (fun q => by first | exact n46 (decide_eq_true q.1) | (have := of_decide_eq_true c53; omega))]; exact OB.no Fr.rf hz)
  · skip
    rw [nI_eq (by omega) (by omega)] at h31
    refine X_iconst (v := 1) (nx := 35) dX3_addRoute_34 rfl rfl ?_
    refine X_goto (tgt := 39) dX3_addRoute_35 rfl ?_
    refine X_istore (i := 6) (nx := 41) dX3_addRoute_39 rfl (by decide) rfl (st_s (st_s (st_s (st_s (st_s (st_s (st_0))))))) ?_
    refine X_iload (nx := 43) dX3_addRoute_41 rfl rfl ?_
    refine Y_Si1 (nx := 46) dX3_addRoute_43 rfl ml_RX3_52 kj_X7_isRouter ks_X7_isRouter (sp_X7_isRouter) (by first | decide | omega) (by exact Nat.le_of_ble_eq_true rfl) ?_
    refine X_top (congrArg b2i (dI3 (by unfold dg_; omega))) ?_
    refine X_if_eq (tgt := 56) (nx := 49) dX3_addRoute_46 rfl rfl (fun h46 => ?_) (fun h46 => ?_)
    · skip
      have n46 := nb h46
      refine X_iconst (v := 0) (nx := 57) dX3_addRoute_56 rfl rfl ?_
      exact Z_reti dX3_addRoute_57 (Or.inr ⟨rfl, by first | exact Or.inl rfl | exact Or.inr rfl | exact b2i_01 _ | assumption⟩) (by unfold arS; rw [if_neg (fun q => by first | exact n46 (decide_eq_true q.1) | (have := of_decide_eq_true c53; omega))]; exact OB.no Fr.rf hz)
    · skip
      have c46 := b2i_t.mp h46
      refine X_aload_n (nx := 50) dX3_addRoute_49 rfl rfl rfl ?_
      refine Y_Vi0 (nx := 53) dX3_addRoute_50 rfl ml_RX3_63 kj_X0_isFull kv_X0_isFull (sp_X0_isFull (Or.inr (Or.inl rfl)) hE) (by first | assumption | rfl | decide | omega) (by first | assumption | rfl | decide | omega) (by decide) rfl (by first | decide | omega) (by exact Nat.le_of_ble_eq_true rfl) ?_
      refine X_if_eq (tgt := 58) (nx := 56) dX3_addRoute_53 rfl rfl (fun h53 => ?_) (fun h53 => ?_)
      · skip
        have n53 := nb h53
        have hcl : cm_ B < 10 := Nat.not_le.mp (fun q => n53 (decide_eq_true q))
        have hr := isR_27 _ hcl
        have hr1 := hr.1
        have hr2 := hr.2
        have hac : dg_ t (st + 1) < 3 ∧ cm_ B < 10 := ⟨of_decide_eq_true c46, hcl⟩
        refine X_aload_n (nx := 59) dX3_addRoute_58 rfl rfl rfl ?_
        refine Y_Vr0 (nx := 62) dX3_addRoute_59 rfl ml_RX3_69 kj_X0_draft kv_X0_draft (sp_X0_draft (Or.inr (Or.inl rfl)) hE hcl) (by first | assumption | rfl | decide | omega) (by first | assumption | rfl | decide | omega) (by decide) rfl (by first | decide | omega) (by exact Nat.le_of_ble_eq_true rfl) ?_
        refine X_astore (i := 7) (nx := 64) dX3_addRoute_62 rfl (by decide) rfl (st_s (st_s (st_s (st_s (st_s (st_s (st_s (st_0)))))))) ?_
        refine X_aload (nx := 66) dX3_addRoute_64 rfl rfl ?_
        refine X_iload (nx := 68) dX3_addRoute_66 rfl rfl ?_
        refine M_putI (nx := 71) dX3_addRoute_68 rfl fl_RX3_73 rfl rfl (by first | assumption | rfl | decide | omega) (by first | assumption | rfl | decide | omega) ?_
        refine X_aload (nx := 73) dX3_addRoute_71 rfl rfl ?_
        refine X_iload (nx := 75) dX3_addRoute_73 rfl rfl ?_
        refine X_if_eq (tgt := 83) (nx := 78) dX3_addRoute_75 rfl rfl (fun h75 => ?_) (fun h75 => ?_)
        · exact absurd h75 (by decide)
        · skip
          refine X_bipush (v := -9) (nx := 80) dX3_addRoute_78 rfl rfl ?_
          refine X_goto (tgt := 85) dX3_addRoute_80 rfl ?_
          refine M_putI (nx := 88) dX3_addRoute_85 rfl fl_RX3_78 rfl rfl (by first | assumption | rfl | decide | omega) (by first | assumption | rfl | decide | omega) ?_
          refine X_aload (nx := 90) dX3_addRoute_88 rfl rfl ?_
          refine X_iload (nx := 92) dX3_addRoute_90 rfl rfl ?_
          refine X_if_eq (tgt := 100) (nx := 95) dX3_addRoute_92 rfl rfl (fun h92 => ?_) (fun h92 => ?_)
          · exact absurd h92 (by decide)
          · skip
            refine X_iload (nx := 97) dX3_addRoute_95 rfl rfl ?_
            refine X_goto (tgt := 102) dX3_addRoute_97 rfl ?_
            refine M_putI (nx := 105) dX3_addRoute_102 rfl fl_RX3_81 rfl rfl (by first | assumption | rfl | decide | omega) (by first | assumption | rfl | decide | omega) ?_
            refine X_aload_n (nx := 106) dX3_addRoute_105 rfl rfl rfl ?_
            refine X_iload_n (nx := 107) dX3_addRoute_106 rfl rfl rfl ?_
            refine X_iconst (v := nI 3) (nx := 108) dX3_addRoute_107 rfl rfl ?_
            refine X_iadd (nx := 109) dX3_addRoute_108 rfl ?_
            refine X_iload_n (nx := 110) dX3_addRoute_109 rfl rfl rfl ?_
            refine X_aload (nx := 112) dX3_addRoute_110 rfl rfl ?_
            refine Z_Si4 (nx := 115) dX3_addRoute_112 rfl ml_RX3_84 kj_X3_readSegments ks_X3_readSegments (sp_X3_readSegments (D := adD3 D (rt 27 (cm_ B)) _ _ _) (nI_add st 3) rfl hr h256 hl s6.2.1 (by omega) (hP.fr (adD3_fr 96 (by unfold rt; omega)) (adD3_fr 97 (by unfold rt; omega))) (by unfold rt; omega) s6.2.2) (by first | decide | omega) (by exact Nat.le_of_ble_eq_true rfl) (fun u112 D112 g112 => ?_)
            refine X_if_eq (tgt := 131) (nx := 118) dX3_addRoute_115 rfl rfl (fun h115 => ?_) (fun h115 => ?_)
            · skip
              refine X_iconst (v := 0) (nx := 132) dX3_addRoute_131 rfl rfl ?_
              exact Z_reti dX3_addRoute_132 (Or.inr ⟨rfl, by first | exact Or.inl rfl | exact Or.inr rfl | exact b2i_01 _ | assumption⟩) (by have hno := ar_no hcl hz g112; unfold arS; rw [if_pos hac]; first | (rw [g112.n0 h115]; exact OB.no hno.1 hno.2) | (rw [hsg.1]; show OB D D112 0 (if t.getD st 0 = 109 then _ else _); rw [if_pos h31, if_pos (of_decide_eq_true (b2i_t.mp h128))]; exact OB.no hno.1 hno.2))
            · skip
              obtain ⟨s, hsg⟩ := g112.n1 h115
              refine X_iload (nx := 120) dX3_addRoute_118 rfl rfl ?_
              refine X_if_eq (tgt := 133) (nx := 123) dX3_addRoute_120 rfl rfl (fun h120 => ?_) (fun h120 => ?_)
              · exact absurd h120 (by decide)
              · skip
                refine X_aload (nx := 125) dX3_addRoute_123 rfl rfl ?_
                refine Y_Vi0 (nx := 128) dX3_addRoute_125 rfl ml_RX3_88 kj_X4_hasRest kv_X4_hasRest (sp_X4_hasRest hr hsg.2) (by first | assumption | rfl | decide | omega) (by first | assumption | rfl | decide | omega) (by decide) rfl (by first | decide | omega) (by exact Nat.le_of_ble_eq_true rfl) ?_
                refine X_if_eq (tgt := 133) (nx := 131) dX3_addRoute_128 rfl rfl (fun h128 => ?_) (fun h128 => ?_)
                · skip
                  have n128 := nb h128
                  refine X_aload_n (nx := 134) dX3_addRoute_133 rfl rfl rfl ?_
                  refine Y_Vv0 (nx := 137) dX3_addRoute_134 rfl ml_RX3_91 kj_X0_addDraft kv_X0_addDraft (sp_X0_addDraft (Or.inr (Or.inl rfl)) (enc_draft hE (adD3_fr.tr g112.1)) hcl) (by first | assumption | rfl | decide | omega) (by first | assumption | rfl | decide | omega) (by decide) rfl (by first | decide | omega) (by exact Nat.le_of_ble_eq_true rfl) ?_
                  refine X_iconst (v := 1) (nx := 138) dX3_addRoute_137 rfl rfl ?_
                  exact Z_reti dX3_addRoute_138 (Or.inr ⟨rfl, by first | exact Or.inl rfl | exact Or.inr rfl | exact b2i_01 _ | assumption⟩) (by
                    unfold arS
                    rw [if_pos hac, hsg.1]
                    show OB D _ 1 (if t.getD st 0 = 109 then _ else _)
                    rw [hsg.1] at g112
                    first
                    | (rw [if_neg h31]
                       exact ar_yes hcl hE hV hPB hz hac.1 (Or.inl ⟨rfl, _, (hk.elim (fun q => q.2) (fun q => absurd q.1 h31)), rfl⟩) g112)
                    | (have hk2 := hk.elim (fun q => absurd (q.1.symm.trans h31) (by decide)) id
                       have hpl : ¬ pl s < s.length := fun q => n128 (decide_eq_true q)
                       have := pl_le s
                       rw [if_pos h31, if_neg hpl]
                       exact ar_yes hcl hE hV hPB hz hac.1 (Or.inr ⟨rfl, _, rfl, hk2.2.2, hk2.2.1, by omega⟩) g112))
                · skip
                  refine X_iconst (v := 0) (nx := 132) dX3_addRoute_131 rfl rfl ?_
                  exact Z_reti dX3_addRoute_132 (Or.inr ⟨rfl, by first | exact Or.inl rfl | exact Or.inr rfl | exact b2i_01 _ | assumption⟩) (by have hno := ar_no hcl hz g112; unfold arS; rw [if_pos hac]; first | (rw [g112.n0 h115]; exact OB.no hno.1 hno.2) | (rw [hsg.1]; show OB D D112 0 (if t.getD st 0 = 109 then _ else _); rw [if_pos h31, if_pos (of_decide_eq_true (b2i_t.mp h128))]; exact OB.no hno.1 hno.2))
      · skip
        have c53 := b2i_t.mp h53
        refine X_iconst (v := 0) (nx := 57) dX3_addRoute_56 rfl rfl ?_
        exact Z_reti dX3_addRoute_57 (Or.inr ⟨rfl, by first | exact Or.inl rfl | exact Or.inr rfl | exact b2i_01 _ | assumption⟩) (by unfold arS; rw [if_neg (fun q => by first | exact n46 (decide_eq_true q.1) | (have := of_decide_eq_true c53; omega))]; exact OB.no Fr.rf hz)
theorem dX3_turn_0 : decode cX3_turn 0 = .ok (.iload_n 0, 1) := by decide +kernel
theorem dX3_turn_1 : decode cX3_turn 1 = .ok (.invokestatic 52, 3) := by decide +kernel
theorem dX3_turn_4 : decode cX3_turn 4 = .ok (.ifCond .eq 13, 3) := by decide +kernel
theorem dX3_turn_7 : decode cX3_turn 7 = .ok (.iload_n 1, 1) := by decide +kernel
theorem dX3_turn_8 : decode cX3_turn 8 = .ok (.ifCond .lt 9, 3) := by decide +kernel
theorem dX3_turn_11 : decode cX3_turn 11 = .ok (.iload_n 1, 1) := by decide +kernel
theorem dX3_turn_12 : decode cX3_turn 12 = .ok (.bipush 6, 2) := by decide +kernel
theorem dX3_turn_14 : decode cX3_turn 14 = .ok (.if_icmp .lt 5, 3) := by decide +kernel
theorem dX3_turn_17 : decode cX3_turn 17 = .ok (.iconst 0, 1) := by decide +kernel
theorem dX3_turn_18 : decode cX3_turn 18 = .ok (.ireturn, 1) := by decide +kernel
theorem dX3_turn_19 : decode cX3_turn 19 = .ok (.aload_n 3, 1) := by decide +kernel
theorem dX3_turn_20 : decode cX3_turn 20 = .ok (.getfield 108, 3) := by decide +kernel
theorem dX3_turn_23 : decode cX3_turn 23 = .ok (.iload_n 0, 1) := by decide +kernel
theorem dX3_turn_24 : decode cX3_turn 24 = .ok (.iload_n 1, 1) := by decide +kernel
theorem dX3_turn_25 : decode cX3_turn 25 = .ok (.invokestatic 112, 3) := by decide +kernel
theorem dX3_turn_28 : decode cX3_turn 28 = .ok (.aload_n 3, 1) := by decide +kernel
theorem dX3_turn_29 : decode cX3_turn 29 = .ok (.getfield 116, 3) := by decide +kernel
theorem dX3_turn_32 : decode cX3_turn 32 = .ok (.iload_n 0, 1) := by decide +kernel
theorem dX3_turn_33 : decode cX3_turn 33 = .ok (.iload_n 2, 1) := by decide +kernel
theorem dX3_turn_34 : decode cX3_turn 34 = .ok (.invokestatic 112, 3) := by decide +kernel
theorem dX3_turn_37 : decode cX3_turn 37 = .ok (.iconst 1, 1) := by decide +kernel
theorem dX3_turn_38 : decode cX3_turn 38 = .ok (.ireturn, 1) := by decide +kernel
theorem sp_X3_turn {B : Bk} {a k f : Nat} {x y z : Int32} {D : Mem} (hE : Enc D 27 B) (hV : VB B) (hPB : PDB B) (hz : ZB D 27) (hx : x = nI a) (hy : y = nI k) (hzf : z = nI f) (ha : a < 1000) (hk : k < 1000) (hf : f ≤ 9) : Rix 2 j_X3_turn [.int x, .int y, .int z, .ref 27] D (fun u D' => OB D D' u (if a < 3 ∧ k < 6 then some (setK B a k f) else none)) := by
  refine E.start 0 (ls := [some (.int x), some (.int y), some (.int z), some (.ref 27)]) (by decide +kernel) (Nat.le_of_ble_eq_true rfl) rfl (Nat.le_refl _) (Nat.le_refl _) ?_
  subst hx; subst hy; subst hzf
  have w1 : (lay (27 + 1)).2 = 3 := by decide
  have w2 : (lay (27 + 2)).2 = 3 := by decide
  refine X_iload_n (nx := 1) dX3_turn_0 rfl rfl rfl ?_
  refine Y_Si1 (nx := 4) dX3_turn_1 rfl ml_RX3_52 kj_X7_isRouter ks_X7_isRouter (sp_X7_isRouter) (by first | decide | omega) (by exact Nat.le_of_ble_eq_true rfl) ?_
  refine X_top (congrArg b2i (dI3 (by omega))) ?_
  refine X_if_eq (tgt := 17) (nx := 7) dX3_turn_4 rfl rfl (fun h4 => ?_) (fun h4 => ?_)
  · skip
    have n4 := nb h4
    refine X_iconst (v := 0) (nx := 18) dX3_turn_17 rfl rfl ?_
    exact Z_reti dX3_turn_18 (Or.inr ⟨rfl, by first | exact Or.inl rfl | exact Or.inr rfl | exact b2i_01 _ | assumption⟩) (by rw [if_neg (fun q => by first | exact n4 (decide_eq_true q.1) | exact h14 q.2)]; exact OB.no Fr.rf hz)
  · skip
    have c4 := b2i_t.mp h4
    refine X_iload_n (nx := 8) dX3_turn_7 rfl rfl rfl ?_
    refine X_if_lt (tgt := 17) (nx := 11) dX3_turn_8 rfl rfl (fun h8 => ?_) (fun h8 => ?_)
    · exact absurd h8 (nI_neg (by omega))
    · skip
      refine X_iload_n (nx := 12) dX3_turn_11 rfl rfl rfl ?_
      refine X_bipush (v := nI 6) (nx := 14) dX3_turn_12 rfl rfl ?_
      refine X_icmp_lt (tgt := 19) (nx := 17) dX3_turn_14 rfl rfl (fun h14 => ?_) (fun h14 => ?_)
      · skip
        rw [nI_ltI (by omega) (by omega)] at h14
        refine X_aload_n (nx := 20) dX3_turn_19 rfl rfl rfl ?_
        refine M_getP (nx := 23) dX3_turn_20 rfl fl_RX3_108 rfl (by first | assumption | rfl | decide | omega) (by first | assumption | rfl | decide | omega) (by first | assumption | rfl | decide | omega) ?_
        refine X_iload_n (nx := 24) dX3_turn_23 rfl rfl rfl ?_
        refine X_iload_n (nx := 25) dX3_turn_24 rfl rfl rfl ?_
        refine Y_Sv3 (nx := 28) dX3_turn_25 rfl ml_RX3_112 kj_X7_put ks_X7_put (sp_X7_put (a := 27 + 1) (by decide) (by decide) rfl (by rw [w1]; exact of_decide_eq_true c4)) (by first | decide | omega) (by exact Nat.le_of_ble_eq_true rfl) ?_
        refine X_aload_n (nx := 29) dX3_turn_28 rfl rfl rfl ?_
        refine M_getP (nx := 32) dX3_turn_29 rfl fl_RX3_116 rfl (by first | assumption | rfl | decide | omega) (by first | assumption | rfl | decide | omega) (by first | assumption | rfl | decide | omega) ?_
        refine X_iload_n (nx := 33) dX3_turn_32 rfl rfl rfl ?_
        refine X_iload_n (nx := 34) dX3_turn_33 rfl rfl rfl ?_
        refine Y_Sv3 (nx := 37) dX3_turn_34 rfl ml_RX3_112 kj_X7_put ks_X7_put (sp_X7_put (a := 27 + 2) (by decide) (by decide) rfl (by rw [w2]; exact of_decide_eq_true c4)) (by first | decide | omega) (by exact Nat.le_of_ble_eq_true rfl) ?_
        refine X_iconst (v := 1) (nx := 38) dX3_turn_37 rfl rfl ?_
        exact Z_reti dX3_turn_38 (Or.inr ⟨rfl, by first | exact Or.inl rfl | exact Or.inr rfl | exact b2i_01 _ | assumption⟩) (by rw [if_pos ⟨of_decide_eq_true c4, h14⟩]; exact ⟨(Fr.up (by unfold inB; omega)).tr (Fr.up (by unfold inB; omega)), zb_K hz (Or.inl rfl), rfl, enc_K (Or.inr (Or.inl rfl)) hE (of_decide_eq_true c4), VB_K hV (by omega) hf, hPB⟩)
      · skip
        rw [nI_ltI (by omega) (by omega)] at h14
        refine X_iconst (v := 0) (nx := 18) dX3_turn_17 rfl rfl ?_
        exact Z_reti dX3_turn_18 (Or.inr ⟨rfl, by first | exact Or.inl rfl | exact Or.inr rfl | exact b2i_01 _ | assumption⟩) (by rw [if_neg (fun q => by first | exact n4 (decide_eq_true q.1) | exact h14 q.2)]; exact OB.no Fr.rf hz)
theorem dX3_drop_0 : decode cX3_drop 0 = .ok (.aload_n 1, 1) := by decide +kernel
theorem dX3_drop_1 : decode cX3_drop 1 = .ok (.iload_n 0, 1) := by decide +kernel
theorem dX3_drop_2 : decode cX3_drop 2 = .ok (.invokevirtual 119, 3) := by decide +kernel
theorem dX3_drop_5 : decode cX3_drop 5 = .ok (.ifCond .ne 5, 3) := by decide +kernel
theorem dX3_drop_8 : decode cX3_drop 8 = .ok (.iconst 0, 1) := by decide +kernel
theorem dX3_drop_9 : decode cX3_drop 9 = .ok (.ireturn, 1) := by decide +kernel
theorem dX3_drop_10 : decode cX3_drop 10 = .ok (.aload_n 1, 1) := by decide +kernel
theorem dX3_drop_11 : decode cX3_drop 11 = .ok (.iload_n 0, 1) := by decide +kernel
theorem dX3_drop_12 : decode cX3_drop 12 = .ok (.invokevirtual 122, 3) := by decide +kernel
theorem dX3_drop_15 : decode cX3_drop 15 = .ok (.iconst 0, 1) := by decide +kernel
theorem dX3_drop_16 : decode cX3_drop 16 = .ok (.putfield 125, 3) := by decide +kernel
theorem dX3_drop_19 : decode cX3_drop 19 = .ok (.iconst 1, 1) := by decide +kernel
theorem dX3_drop_20 : decode cX3_drop 20 = .ok (.ireturn, 1) := by decide +kernel
theorem sp_X3_drop {B : Bk} {a : Nat} {x : Int32} {D : Mem} (hE : Enc D 27 B) (hV : VB B) (hPB : PDB B) (hz : ZB D 27) (hx : x = nI a) (ha : a < 1000) : Rix 3 j_X3_drop [.int x, .ref 27] D (fun u D' => OB D D' u (if thN B a = true then some (setT B a) else none)) := by
  refine E.start 0 (ls := [some (.int x), some (.ref 27)]) (by decide +kernel) (Nat.le_of_ble_eq_true rfl) rfl (Nat.le_refl _) (Nat.le_refl _) ?_
  subst hx
  have hcm := hE.2.2.1
  refine X_aload_n (nx := 1) dX3_drop_0 rfl rfl rfl ?_
  refine X_iload_n (nx := 2) dX3_drop_1 rfl rfl rfl ?_
  refine Y_Vi1 (nx := 5) dX3_drop_2 rfl ml_RX3_119 kj_X0_isThere kv_X0_isThere (sp_X0_isThere (Or.inr (Or.inl rfl)) hE) (by first | assumption | rfl | decide | omega) (by first | assumption | rfl | decide | omega) (by decide) rfl (by first | decide | omega) (by exact Nat.le_of_ble_eq_true rfl) ?_
  refine X_top (congrArg b2i (isTh_n hcm (by omega))) ?_
  refine X_if_ne (tgt := 10) (nx := 8) dX3_drop_5 rfl rfl (fun h5 => ?_) (fun h5 => ?_)
  · skip
    have c5 := b2i_t.mp h5
    have hac : a < cm_ B := by unfold thN at c5; simp only [Bool.and_eq_true, decide_eq_true_eq] at c5; exact c5.1
    have hal : a < 10 := by omega
    have hr := isR_27 a hal
    have hr1 := hr.1
    have hr2 := hr.2
    refine X_aload_n (nx := 11) dX3_drop_10 rfl rfl rfl ?_
    refine X_iload_n (nx := 12) dX3_drop_11 rfl rfl rfl ?_
    refine Y_Vr1 (nx := 15) dX3_drop_12 rfl ml_RX3_122 kj_X0_at kv_X0_at (sp_X0_at (Or.inr (Or.inl rfl)) rfl hal) (by first | assumption | rfl | decide | omega) (by first | assumption | rfl | decide | omega) (by decide) rfl (by first | decide | omega) (by exact Nat.le_of_ble_eq_true rfl) ?_
    refine X_iconst (v := 0) (nx := 16) dX3_drop_15 rfl rfl ?_
    refine M_putZ (nx := 19) dX3_drop_16 rfl fl_RX3_125 rfl rfl (Or.inl rfl) (by first | assumption | rfl | decide | omega) (by first | assumption | rfl | decide | omega) ?_
    refine X_iconst (v := 1) (nx := 20) dX3_drop_19 rfl rfl ?_
    exact Z_reti dX3_drop_20 (Or.inr ⟨rfl, by first | exact Or.inl rfl | exact Or.inr rfl | exact b2i_01 _ | assumption⟩) (by rw [if_pos c5]; exact ⟨Fr.up (rt_in hal _ (Or.inl rfl)), zb_T hz, rfl, enc_T hE, VB_T hV, hPB⟩)
  · skip
    have n5 := nb h5
    refine X_iconst (v := 0) (nx := 9) dX3_drop_8 rfl rfl ?_
    exact Z_reti dX3_drop_9 (Or.inr ⟨rfl, by first | exact Or.inl rfl | exact Or.inr rfl | exact b2i_01 _ | assumption⟩) (by rw [if_neg n5]; exact OB.no Fr.rf hz)
theorem dX3_obey_0 : decode cX3_obey 0 = .ok (.aload_n 0, 1) := by decide +kernel
theorem dX3_obey_1 : decode cX3_obey 1 = .ok (.iload_n 1, 1) := by decide +kernel
theorem dX3_obey_2 : decode cX3_obey 2 = .ok (.iconst 1, 1) := by decide +kernel
theorem dX3_obey_3 : decode cX3_obey 3 = .ok (.iadd, 1) := by decide +kernel
theorem dX3_obey_4 : decode cX3_obey 4 = .ok (.invokevirtual 21, 3) := by decide +kernel
theorem dX3_obey_7 : decode cX3_obey 7 = .ok (.bipush 48, 2) := by decide +kernel
theorem dX3_obey_9 : decode cX3_obey 9 = .ok (.isub, 1) := by decide +kernel
theorem dX3_obey_10 : decode cX3_obey 10 = .ok (.istore 4, 2) := by decide +kernel
theorem dX3_obey_12 : decode cX3_obey 12 = .ok (.aload_n 0, 1) := by decide +kernel
theorem dX3_obey_13 : decode cX3_obey 13 = .ok (.iload_n 1, 1) := by decide +kernel
theorem dX3_obey_14 : decode cX3_obey 14 = .ok (.iconst 2, 1) := by decide +kernel
theorem dX3_obey_15 : decode cX3_obey 15 = .ok (.iadd, 1) := by decide +kernel
theorem dX3_obey_16 : decode cX3_obey 16 = .ok (.invokevirtual 21, 3) := by decide +kernel
theorem dX3_obey_19 : decode cX3_obey 19 = .ok (.bipush 48, 2) := by decide +kernel
theorem dX3_obey_21 : decode cX3_obey 21 = .ok (.isub, 1) := by decide +kernel
theorem dX3_obey_22 : decode cX3_obey 22 = .ok (.istore 5, 2) := by decide +kernel
theorem dX3_obey_24 : decode cX3_obey 24 = .ok (.aload_n 0, 1) := by decide +kernel
theorem dX3_obey_25 : decode cX3_obey 25 = .ok (.iload_n 1, 1) := by decide +kernel
theorem dX3_obey_26 : decode cX3_obey 26 = .ok (.invokevirtual 21, 3) := by decide +kernel
theorem dX3_obey_29 : decode cX3_obey 29 = .ok (.lookupswitch 109 #[(107, 90), (109, 59), (114, 35)], 35) := by decide +kernel
theorem dX3_obey_64 : decode cX3_obey 64 = .ok (.iload 5, 2) := by decide +kernel
theorem dX3_obey_66 : decode cX3_obey 66 = .ok (.invokestatic 46, 3) := by decide +kernel
theorem dX3_obey_69 : decode cX3_obey 69 = .ok (.ifCond .eq 17, 3) := by decide +kernel
theorem dX3_obey_72 : decode cX3_obey 72 = .ok (.aload_n 0, 1) := by decide +kernel
theorem dX3_obey_73 : decode cX3_obey 73 = .ok (.iload_n 1, 1) := by decide +kernel
theorem dX3_obey_74 : decode cX3_obey 74 = .ok (.iload_n 2, 1) := by decide +kernel
theorem dX3_obey_75 : decode cX3_obey 75 = .ok (.aload_n 3, 1) := by decide +kernel
theorem dX3_obey_76 : decode cX3_obey 76 = .ok (.invokestatic 49, 3) := by decide +kernel
theorem dX3_obey_79 : decode cX3_obey 79 = .ok (.ifCond .eq 7, 3) := by decide +kernel
theorem dX3_obey_82 : decode cX3_obey 82 = .ok (.iconst 1, 1) := by decide +kernel
theorem dX3_obey_83 : decode cX3_obey 83 = .ok (.goto 4, 3) := by decide +kernel
theorem dX3_obey_86 : decode cX3_obey 86 = .ok (.iconst 0, 1) := by decide +kernel
theorem dX3_obey_87 : decode cX3_obey 87 = .ok (.ireturn, 1) := by decide +kernel
theorem dX3_obey_88 : decode cX3_obey 88 = .ok (.iload 5, 2) := by decide +kernel
theorem dX3_obey_90 : decode cX3_obey 90 = .ok (.invokestatic 52, 3) := by decide +kernel
theorem dX3_obey_93 : decode cX3_obey 93 = .ok (.ifCond .eq 24, 3) := by decide +kernel
theorem dX3_obey_96 : decode cX3_obey 96 = .ok (.iload 5, 2) := by decide +kernel
theorem dX3_obey_98 : decode cX3_obey 98 = .ok (.iload 4, 2) := by decide +kernel
theorem dX3_obey_100 : decode cX3_obey 100 = .ok (.if_icmp .le 17, 3) := by decide +kernel
theorem dX3_obey_103 : decode cX3_obey 103 = .ok (.aload_n 0, 1) := by decide +kernel
theorem dX3_obey_104 : decode cX3_obey 104 = .ok (.iload_n 1, 1) := by decide +kernel
theorem dX3_obey_105 : decode cX3_obey 105 = .ok (.iload_n 2, 1) := by decide +kernel
theorem dX3_obey_106 : decode cX3_obey 106 = .ok (.aload_n 3, 1) := by decide +kernel
theorem dX3_obey_107 : decode cX3_obey 107 = .ok (.invokestatic 49, 3) := by decide +kernel
theorem dX3_obey_110 : decode cX3_obey 110 = .ok (.ifCond .eq 7, 3) := by decide +kernel
theorem dX3_obey_113 : decode cX3_obey 113 = .ok (.iconst 1, 1) := by decide +kernel
theorem dX3_obey_114 : decode cX3_obey 114 = .ok (.goto 4, 3) := by decide +kernel
theorem dX3_obey_117 : decode cX3_obey 117 = .ok (.iconst 0, 1) := by decide +kernel
theorem dX3_obey_118 : decode cX3_obey 118 = .ok (.ireturn, 1) := by decide +kernel
theorem dX3_obey_119 : decode cX3_obey 119 = .ok (.iload 4, 2) := by decide +kernel
theorem dX3_obey_121 : decode cX3_obey 121 = .ok (.iload 5, 2) := by decide +kernel
theorem dX3_obey_123 : decode cX3_obey 123 = .ok (.aload_n 0, 1) := by decide +kernel
theorem dX3_obey_124 : decode cX3_obey 124 = .ok (.iload_n 1, 1) := by decide +kernel
theorem dX3_obey_125 : decode cX3_obey 125 = .ok (.iconst 3, 1) := by decide +kernel
theorem dX3_obey_126 : decode cX3_obey 126 = .ok (.iadd, 1) := by decide +kernel
theorem dX3_obey_127 : decode cX3_obey 127 = .ok (.invokevirtual 21, 3) := by decide +kernel
theorem dX3_obey_130 : decode cX3_obey 130 = .ok (.bipush 48, 2) := by decide +kernel
theorem dX3_obey_132 : decode cX3_obey 132 = .ok (.isub, 1) := by decide +kernel
theorem dX3_obey_133 : decode cX3_obey 133 = .ok (.aload_n 3, 1) := by decide +kernel
theorem dX3_obey_134 : decode cX3_obey 134 = .ok (.invokestatic 55, 3) := by decide +kernel
theorem dX3_obey_137 : decode cX3_obey 137 = .ok (.ireturn, 1) := by decide +kernel
theorem dX3_obey_138 : decode cX3_obey 138 = .ok (.iload 4, 2) := by decide +kernel
theorem dX3_obey_140 : decode cX3_obey 140 = .ok (.aload_n 3, 1) := by decide +kernel
theorem dX3_obey_141 : decode cX3_obey 141 = .ok (.invokestatic 59, 3) := by decide +kernel
theorem dX3_obey_144 : decode cX3_obey 144 = .ok (.ireturn, 1) := by decide +kernel
theorem ob_u0 {D D' : Mem} {u : Int32} {o : Option Bk} (g : OB D D' u o) (h : u = 0) : OB D D' 0 o := h ▸ g
theorem ob_u1 {D D' : Mem} {u : Int32} {o : Option Bk} (g : OB D D' u o) (h : ¬ u = 0) : OB D D' 1 o := by
  cases o with
  | none => exact absurd g.2.2 h
  | some B => exact ⟨g.1, g.2.1, rfl, g.2.2.2⟩
theorem ob_01 {D D' : Mem} {u : Int32} {o : Option Bk} (g : OB D D' u o) : u = 0 ∨ u = 1 := by
  cases o with
  | none => exact Or.inl g.2.2
  | some B => exact Or.inr g.2.2.1
theorem sp_X3_obey {t : List Nat} {st cl : Nat} {B : Bk} {x y : Int32} {D : Mem} (hP : PIL D 96 t) (h256 : ∀ x ∈ t, x < 256) (hl : t.length < 200) (hE : Enc D 27 B) (hV : VB B) (hPB : PDB B) (hz : ZB D 27) (hx : x = nI st) (hy : y = nI cl) (hs : stm t st cl) : Rix 5 j_X3_obey [.ref 96, .int x, .int y, .ref 27] D (fun u D' => OB D D' u (obS t st cl B)) := by
  refine E.start 2 (ls := [some (.ref 96), some (.int x), some (.int y), some (.ref 27), none, none]) (by decide +kernel) (Nat.le_of_ble_eq_true rfl) rfl (Nat.le_refl _) (Nat.le_refl _) ?_
  subst hx; subst hy
  have hs0 := hs
  obtain ⟨s1, s2, s3, s4, s5⟩ := hs
  have hstl : st < t.length := by omega
  have b0 : t.getD st 0 < 256 := getD_lt h256 (by omega)
  have b1 : t.getD (st + 1) 0 < 256 := getD_lt h256 (by omega)
  have b2 : t.getD (st + 2) 0 < 256 := getD_lt h256 (by omega)
  refine X_aload_n (nx := 1) dX3_obey_0 rfl rfl rfl ?_
  refine X_iload_n (nx := 2) dX3_obey_1 rfl rfl rfl ?_
  refine X_iconst (v := nI 1) (nx := 3) dX3_obey_2 rfl rfl ?_
  refine X_iadd (nx := 4) dX3_obey_3 rfl ?_
  refine Y_Vi1 (nx := 7) dX3_obey_4 rfl ml_RX3_21 kj_X2_at kv_X2_at (sp_X2_at (Or.inl rfl) hP (nI_add _ _) (by omega)) (by first | assumption | rfl | decide | omega) (by first | assumption | rfl | decide | omega) (by decide) rfl (by first | decide | omega) (by exact Nat.le_of_ble_eq_true rfl) ?_
  refine X_bipush (v := nI 48) (nx := 9) dX3_obey_7 rfl rfl ?_
  refine X_isub (nx := 10) dX3_obey_9 rfl ?_
  refine X_top (show _ = nI (dg_ t (st + 1)) from sub_nI (by omega)) ?_
  refine X_istore (i := 4) (nx := 12) dX3_obey_10 rfl (by decide) rfl (st_s (st_s (st_s (st_s (st_0))))) ?_
  refine X_aload_n (nx := 13) dX3_obey_12 rfl rfl rfl ?_
  refine X_iload_n (nx := 14) dX3_obey_13 rfl rfl rfl ?_
  refine X_iconst (v := nI 2) (nx := 15) dX3_obey_14 rfl rfl ?_
  refine X_iadd (nx := 16) dX3_obey_15 rfl ?_
  refine Y_Vi1 (nx := 19) dX3_obey_16 rfl ml_RX3_21 kj_X2_at kv_X2_at (sp_X2_at (Or.inl rfl) hP (nI_add _ _) (by omega)) (by first | assumption | rfl | decide | omega) (by first | assumption | rfl | decide | omega) (by decide) rfl (by first | decide | omega) (by exact Nat.le_of_ble_eq_true rfl) ?_
  refine X_bipush (v := nI 48) (nx := 21) dX3_obey_19 rfl rfl ?_
  refine X_isub (nx := 22) dX3_obey_21 rfl ?_
  refine X_top (show _ = nI (dg_ t (st + 2)) from sub_nI (by omega)) ?_
  refine X_istore (i := 5) (nx := 24) dX3_obey_22 rfl (by decide) rfl (st_s (st_s (st_s (st_s (st_s (st_0)))))) ?_
  refine X_aload_n (nx := 25) dX3_obey_24 rfl rfl rfl ?_
  refine X_iload_n (nx := 26) dX3_obey_25 rfl rfl rfl ?_
  refine Y_Vi1 (nx := 29) dX3_obey_26 rfl ml_RX3_21 kj_X2_at kv_X2_at (sp_X2_at (Or.inl rfl) hP rfl hstl) (by first | assumption | rfl | decide | omega) (by first | assumption | rfl | decide | omega) (by decide) rfl (by first | decide | omega) (by exact Nat.le_of_ble_eq_true rfl) ?_
  have s7 : t.getD st 0 = 114 ∨ t.getD st 0 = 109 ∨ t.getD st 0 = 107 ∨ t.getD st 0 = 120 := by omega
  rcases s7 with e0 | e0 | e0 | e0
  · skip
    refine X_top (y := 114) (by rw [e0]; rfl) ?_
    refine X_lookup (tgt := 64) (off := 35) dX3_obey_29 (by decide) (by decide) rfl ?_
    refine X_iload (nx := 66) dX3_obey_64 rfl rfl ?_
    refine Y_Si1 (nx := 69) dX3_obey_66 rfl ml_RX3_46 kj_X7_isVerb ks_X7_isVerb (sp_X7_isVerb) (by first | decide | omega) (by exact Nat.le_of_ble_eq_true rfl) ?_
    refine X_top (congrArg b2i (dI4 (by unfold dg_; omega))) ?_
    refine X_if_eq (tgt := 86) (nx := 72) dX3_obey_69 rfl rfl (fun h69 => ?_) (fun h69 => ?_)
    · skip
      have n69 := nb h69
      refine X_iconst (v := 0) (nx := 87) dX3_obey_86 rfl rfl ?_
      exact Z_reti dX3_obey_87 (Or.inr ⟨rfl, by first | exact Or.inl rfl | exact Or.inr rfl | exact b2i_01 _ | assumption⟩) (by
        unfold obS
        rw [if_pos e0]
        first
        | (rw [if_neg (fun q => n69 (decide_eq_true q))]; exact OB.no Fr.rf hz)
        | (rw [if_pos (of_decide_eq_true c69)]; exact ob_u0 g76 h79)
        | (rw [if_pos (of_decide_eq_true c69)]; exact ob_u1 g76 h79))
    · skip
      have c69 := b2i_t.mp h69
      refine X_aload_n (nx := 73) dX3_obey_72 rfl rfl rfl ?_
      refine X_iload_n (nx := 74) dX3_obey_73 rfl rfl rfl ?_
      refine X_iload_n (nx := 75) dX3_obey_74 rfl rfl rfl ?_
      refine X_aload_n (nx := 76) dX3_obey_75 rfl rfl rfl ?_
      refine Z_Si4 (nx := 79) dX3_obey_76 rfl ml_RX3_49 kj_X3_addRoute ks_X3_addRoute (sp_X3_addRoute hP h256 hl hE hV hPB hz rfl rfl hs0 (Or.inl ⟨e0, of_decide_eq_true c69⟩)) (by first | decide | omega) (by exact Nat.le_of_ble_eq_true rfl) (fun u76 D76 g76 => ?_)
      refine X_if_eq (tgt := 86) (nx := 82) dX3_obey_79 rfl rfl (fun h79 => ?_) (fun h79 => ?_)
      · skip
        refine X_iconst (v := 0) (nx := 87) dX3_obey_86 rfl rfl ?_
        exact Z_reti dX3_obey_87 (Or.inr ⟨rfl, by first | exact Or.inl rfl | exact Or.inr rfl | exact b2i_01 _ | assumption⟩) (by
          unfold obS
          rw [if_pos e0]
          first
          | (rw [if_neg (fun q => n69 (decide_eq_true q))]; exact OB.no Fr.rf hz)
          | (rw [if_pos (of_decide_eq_true c69)]; exact ob_u0 g76 h79)
          | (rw [if_pos (of_decide_eq_true c69)]; exact ob_u1 g76 h79))
      · skip
        refine X_iconst (v := 1) (nx := 83) dX3_obey_82 rfl rfl ?_
        refine X_goto (tgt := 87) dX3_obey_83 rfl ?_
        exact Z_reti dX3_obey_87 (Or.inr ⟨rfl, by first | exact Or.inl rfl | exact Or.inr rfl | exact b2i_01 _ | assumption⟩) (by
          unfold obS
          rw [if_pos e0]
          first
          | (rw [if_neg (fun q => n69 (decide_eq_true q))]; exact OB.no Fr.rf hz)
          | (rw [if_pos (of_decide_eq_true c69)]; exact ob_u0 g76 h79)
          | (rw [if_pos (of_decide_eq_true c69)]; exact ob_u1 g76 h79))
  · skip
    refine X_top (y := 109) (by rw [e0]; rfl) ?_
    refine X_lookup (tgt := 88) (off := 59) dX3_obey_29 (by decide) (by decide) rfl ?_
    refine X_iload (nx := 90) dX3_obey_88 rfl rfl ?_
    refine Y_Si1 (nx := 93) dX3_obey_90 rfl ml_RX3_52 kj_X7_isRouter ks_X7_isRouter (sp_X7_isRouter) (by first | decide | omega) (by exact Nat.le_of_ble_eq_true rfl) ?_
    refine X_top (congrArg b2i (dI3 (by unfold dg_; omega))) ?_
    refine X_if_eq (tgt := 117) (nx := 96) dX3_obey_93 rfl rfl (fun h93 => ?_) (fun h93 => ?_)
    · skip
      have n93 := nb h93
      refine X_iconst (v := 0) (nx := 118) dX3_obey_117 rfl rfl ?_
      exact Z_reti dX3_obey_118 (Or.inr ⟨rfl, by first | exact Or.inl rfl | exact Or.inr rfl | exact b2i_01 _ | assumption⟩) (by
        unfold obS
        rw [if_neg (by omega), if_pos e0]
        first
        | (rw [if_neg (fun q => n93 (decide_eq_true q.1))]; exact OB.no Fr.rf hz)
        | (rw [if_neg (fun q => h100 q.2)]; exact OB.no Fr.rf hz)
        | (rw [if_pos ⟨of_decide_eq_true c93, h100⟩]; exact ob_u0 g107 h110)
        | (rw [if_pos ⟨of_decide_eq_true c93, h100⟩]; exact ob_u1 g107 h110))
    · skip
      have c93 := b2i_t.mp h93
      refine X_iload (nx := 98) dX3_obey_96 rfl rfl ?_
      refine X_iload (nx := 100) dX3_obey_98 rfl rfl ?_
      refine X_icmp_le (tgt := 117) (nx := 103) dX3_obey_100 rfl rfl (fun h100 => ?_) (fun h100 => ?_)
      · skip
        have h100 : ¬ dg_ t (st + 1) < dg_ t (st + 2) := fun q => nI_ge q (by unfold dg_; omega) h100
        refine X_iconst (v := 0) (nx := 118) dX3_obey_117 rfl rfl ?_
        exact Z_reti dX3_obey_118 (Or.inr ⟨rfl, by first | exact Or.inl rfl | exact Or.inr rfl | exact b2i_01 _ | assumption⟩) (by
          unfold obS
          rw [if_neg (by omega), if_pos e0]
          first
          | (rw [if_neg (fun q => n93 (decide_eq_true q.1))]; exact OB.no Fr.rf hz)
          | (rw [if_neg (fun q => h100 q.2)]; exact OB.no Fr.rf hz)
          | (rw [if_pos ⟨of_decide_eq_true c93, h100⟩]; exact ob_u0 g107 h110)
          | (rw [if_pos ⟨of_decide_eq_true c93, h100⟩]; exact ob_u1 g107 h110))
      · skip
        have h100 : dg_ t (st + 1) < dg_ t (st + 2) := Nat.not_le.mp (fun q => h100 (nI_le q (by unfold dg_; omega)))
        refine X_aload_n (nx := 104) dX3_obey_103 rfl rfl rfl ?_
        refine X_iload_n (nx := 105) dX3_obey_104 rfl rfl rfl ?_
        refine X_iload_n (nx := 106) dX3_obey_105 rfl rfl rfl ?_
        refine X_aload_n (nx := 107) dX3_obey_106 rfl rfl rfl ?_
        refine Z_Si4 (nx := 110) dX3_obey_107 rfl ml_RX3_49 kj_X3_addRoute ks_X3_addRoute (sp_X3_addRoute hP h256 hl hE hV hPB hz rfl rfl hs0 (Or.inr ⟨e0, of_decide_eq_true c93, h100⟩)) (by first | decide | omega) (by exact Nat.le_of_ble_eq_true rfl) (fun u107 D107 g107 => ?_)
        refine X_if_eq (tgt := 117) (nx := 113) dX3_obey_110 rfl rfl (fun h110 => ?_) (fun h110 => ?_)
        · skip
          refine X_iconst (v := 0) (nx := 118) dX3_obey_117 rfl rfl ?_
          exact Z_reti dX3_obey_118 (Or.inr ⟨rfl, by first | exact Or.inl rfl | exact Or.inr rfl | exact b2i_01 _ | assumption⟩) (by
            unfold obS
            rw [if_neg (by omega), if_pos e0]
            first
            | (rw [if_neg (fun q => n93 (decide_eq_true q.1))]; exact OB.no Fr.rf hz)
            | (rw [if_neg (fun q => h100 q.2)]; exact OB.no Fr.rf hz)
            | (rw [if_pos ⟨of_decide_eq_true c93, h100⟩]; exact ob_u0 g107 h110)
            | (rw [if_pos ⟨of_decide_eq_true c93, h100⟩]; exact ob_u1 g107 h110))
        · skip
          refine X_iconst (v := 1) (nx := 114) dX3_obey_113 rfl rfl ?_
          refine X_goto (tgt := 118) dX3_obey_114 rfl ?_
          exact Z_reti dX3_obey_118 (Or.inr ⟨rfl, by first | exact Or.inl rfl | exact Or.inr rfl | exact b2i_01 _ | assumption⟩) (by
            unfold obS
            rw [if_neg (by omega), if_pos e0]
            first
            | (rw [if_neg (fun q => n93 (decide_eq_true q.1))]; exact OB.no Fr.rf hz)
            | (rw [if_neg (fun q => h100 q.2)]; exact OB.no Fr.rf hz)
            | (rw [if_pos ⟨of_decide_eq_true c93, h100⟩]; exact ob_u0 g107 h110)
            | (rw [if_pos ⟨of_decide_eq_true c93, h100⟩]; exact ob_u1 g107 h110))
  · skip
    refine X_top (y := 107) (by rw [e0]; rfl) ?_
    refine X_lookup (tgt := 119) (off := 90) dX3_obey_29 (by decide) (by decide) rfl ?_
    refine X_iload (nx := 121) dX3_obey_119 rfl rfl ?_
    refine X_iload (nx := 123) dX3_obey_121 rfl rfl ?_
    refine X_aload_n (nx := 124) dX3_obey_123 rfl rfl rfl ?_
    refine X_iload_n (nx := 125) dX3_obey_124 rfl rfl rfl ?_
    refine X_iconst (v := nI 3) (nx := 126) dX3_obey_125 rfl rfl ?_
    refine X_iadd (nx := 127) dX3_obey_126 rfl ?_
    refine Y_Vi1 (nx := 130) dX3_obey_127 rfl ml_RX3_21 kj_X2_at kv_X2_at (sp_X2_at (Or.inl rfl) hP (nI_add _ _) (by omega)) (by first | assumption | rfl | decide | omega) (by first | assumption | rfl | decide | omega) (by decide) rfl (by first | decide | omega) (by exact Nat.le_of_ble_eq_true rfl) ?_
    refine X_bipush (v := nI 48) (nx := 132) dX3_obey_130 rfl rfl ?_
    refine X_isub (nx := 133) dX3_obey_132 rfl ?_
    refine X_top (show _ = nI (dg_ t (st + 3)) from sub_nI (by omega)) ?_
    refine X_aload_n (nx := 134) dX3_obey_133 rfl rfl rfl ?_
    refine Z_Si4 (nx := 137) dX3_obey_134 rfl ml_RX3_55 kj_X3_turn ks_X3_turn (sp_X3_turn hE hV hPB hz rfl rfl rfl (by unfold dg_; omega) (by unfold dg_; omega) (by unfold dg_; omega)) (by first | decide | omega) (by exact Nat.le_of_ble_eq_true rfl) (fun u134 D134 g134 => ?_)
    exact Z_reti dX3_obey_137 (Or.inr ⟨rfl, by first | exact ob_01 g134 | first | exact Or.inl rfl | exact Or.inr rfl | exact b2i_01 _ | assumption⟩) (by unfold obS; rw [if_neg (by omega), if_neg (by omega), if_pos e0]; exact g134)
  · skip
    refine X_top (y := 120) (by rw [e0]; rfl) ?_
    refine X_lookup (tgt := 138) (off := 109) dX3_obey_29 (by decide) (by decide) rfl ?_
    refine X_iload (nx := 140) dX3_obey_138 rfl rfl ?_
    refine X_aload_n (nx := 141) dX3_obey_140 rfl rfl rfl ?_
    refine Z_Si2 (nx := 144) dX3_obey_141 rfl ml_RX3_59 kj_X3_drop ks_X3_drop (sp_X3_drop hE hV hPB hz rfl (by unfold dg_; omega)) (by first | decide | omega) (by exact Nat.le_of_ble_eq_true rfl) (fun u141 D141 g141 => ?_)
    exact Z_reti dX3_obey_144 (Or.inr ⟨rfl, by first | exact ob_01 g141 | first | exact Or.inl rfl | exact Or.inr rfl | exact b2i_01 _ | assumption⟩) (by unfold obS; rw [if_neg (by omega), if_neg (by omega), if_neg (by omega)]; exact g141)
