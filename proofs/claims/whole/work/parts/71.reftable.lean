/-! THE REFERENCE: table -/
/-- c statements told from number s on; the first begins at st, behind the last is e -/
def CHF (D : Mem) (t : List Nat) (N e : Nat) : Nat → Nat → Nat → Prop
  | _, st, 0 => st = e
  | s, st, c + 1 => ∃ cl, TLD D t s st cl N ∧ st + 2 ≤ cl ∧ cl < t.length ∧ t.getD cl 0 = 59 ∧ (∀ k, st ≤ k → k < cl → t.getD k 0 ≠ 59) ∧ CHF D t N e (s + 1) (cl + 1) c
theorem TLD.fq {D D' : Mem} {t : List Nat} {s st cl N N' S n : Nat} (h : TLD D t s st cl N) (hf : Fq (STQ S n) D D') (hs : s < S) (hN : N ≤ n) (hN' : N ≤ N') : TLD D' t s st cl N' := by
  obtain ⟨h1, h2, h3, h4, h5, h6⟩ := h
  refine ⟨(hf _ _ (by unfold STQ; omega)).trans h1, (hf _ _ (by unfold STQ; omega)).trans h2, (hf _ _ (by unfold STQ; omega)).trans h3, fun q => (hf _ _ (by unfold STQ; omega)).trans (h4 q), fun q => (hf _ _ (by unfold STQ; omega)).trans (h5 q), fun q => ?_⟩
  obtain ⟨n0, a1, a2, a3, a4⟩ := h6 q
  exact ⟨n0, (hf _ _ (by unfold STQ; omega)).trans a1, (hf _ _ (by unfold STQ; omega)).trans a2, by omega, fun k hk => (hf _ _ (by unfold STQ; omega)).trans (a4 k hk)⟩
theorem TLD.eq {D D' : Mem} {t : List Nat} {s st cl N : Nat} (h : TLD D t s st cl N) (hf : ∀ b, 126 ≤ b → b ≤ 131 → D' b = D b) : TLD D' t s st cl N := by
  unfold TLD at *
  rw [hf 126 (by omega) (by omega), hf 127 (by omega) (by omega), hf 128 (by omega) (by omega), hf 129 (by omega) (by omega), hf 130 (by omega) (by omega), hf 131 (by omega) (by omega)]
  exact h
theorem CHF.fq {D D' : Mem} {t : List Nat} {N N' e S n : Nat} (hf : Fq (STQ S n) D D') (hN : N ≤ n) (hN' : N ≤ N') : ∀ c s st, s + c ≤ S → CHF D t N e s st c → CHF D' t N' e s st c := by
  intro c
  induction c with
  | zero => intro s st _ h; exact h
  | succ c ih =>
    intro s st hs h
    obtain ⟨cl, h1, h2, h3, h4, h5, h6⟩ := h
    exact ⟨cl, h1.fq hf (by omega) hN hN', h2, h3, h4, h5, ih (s + 1) (cl + 1) (by omega) h6⟩
theorem CHF.eq {D D' : Mem} {t : List Nat} {N e : Nat} (hf : ∀ b, 126 ≤ b → b ≤ 131 → D' b = D b) : ∀ c s st, CHF D t N e s st c → CHF D' t N e s st c := by
  intro c
  induction c with
  | zero => intro s st h; exact h
  | succ c ih =>
    intro s st h
    obtain ⟨cl, h1, h2, h3, h4, h5, h6⟩ := h
    exact ⟨cl, h1.eq hf, h2, h3, h4, h5, ih (s + 1) (cl + 1) h6⟩
theorem CHF.snoc {D : Mem} {t : List Nat} {N e cl : Nat} : ∀ c s st, CHF D t N e s st c → TLD D t (s + c) e cl N → e + 2 ≤ cl → cl < t.length → t.getD cl 0 = 59 → (∀ k, e ≤ k → k < cl → t.getD k 0 ≠ 59) → CHF D t N (cl + 1) s st (c + 1) := by
  intro c
  induction c with
  | zero => intro s st h g1 g2 g3 g4 g5; subst h; exact ⟨cl, g1, g2, g3, g4, g5, rfl⟩
  | succ c ih =>
    intro s st h g1 g2 g3 g4 g5
    obtain ⟨cl', h1, h2, h3, h4, h5, h6⟩ := h
    exact ⟨cl', h1, h2, h3, h4, h5, ih (s + 1) (cl' + 1) h6 (by rw [show s + 1 + c = s + (c + 1) by omega]; exact g1) g2 g3 g4 g5⟩
theorem rdS_skip {t : List Nat} {st cl n M : Nat} {B : Bk} (h59 : t.getD cl 0 = 59) : ∀ d i, i + d = cl → (∀ k, i ≤ k → k < cl → t.getD k 0 ≠ 59) → (obS t st cl B = none → rdS t i (d + (M + 1)) st n B = (-2000 - nI st, none)) ∧ (∀ B', obS t st cl B = some B' → rdS t i (d + (M + 1)) st n B = rdS t (cl + 1) M (cl + 1) (n + 1) B') := by
  intro d
  induction d with
  | zero =>
    intro i hi hn
    obtain rfl : i = cl := by omega
    rw [Nat.zero_add]
    exact ⟨fun q => rdS_0 h59 q, fun B' q => rdS_1 h59 q⟩
  | succ d ih =>
    intro i hi hn
    have := ih (i + 1) (by omega) (fun k a b => hn k (by omega) b)
    rw [show d + 1 + (M + 1) = (d + (M + 1)) + 1 by omega, rdS_n (hn i (Nat.le_refl _) (by omega))]
    exact this
def TBQ (b i : Nat) : Prop := (b = 104 ∧ 34 ≤ i ∧ i ≤ 37) ∨ (126 ≤ b ∧ b ≤ 131)
theorem STQ.tb {s n : Nat} {D D' : Mem} (h : Fq (STQ s n) D D') : Fq TBQ D D' := h.mono (fun b i q => by unfold STQ at q; unfold TBQ; omega)
/-- cnt statements told, up to st -/
def LPI (D : Mem) (t : List Nat) (st cnt N : Nat) : Prop := TPE D t st ∧ ALV t st ∧ qs t st = 0 ∧ 3 * cnt ≤ st ∧ D 104 35 = nI cnt ∧ D 104 37 = nI N ∧ N ≤ st ∧ CHF D t N st 0 0 cnt ∧ (cnt = 0 → st = 0)
theorem LPI.step {D D2 D3 : Mem} {t : List Nat} {st cnt N cl n' : Nat} (h : LPI D t st cnt N) (gf : Fq (STQ cnt N) D D2) (hD : D3 = up2 D2 104 35 (nI (cnt + 1))) (g1 : TPE D2 t (cl + 1)) (g2 : ALV t (cl + 1)) (g3 : qs t (cl + 1) = 0) (g4 : st + 2 ≤ cl) (g5 : cl < t.length) (g6 : t.getD cl 0 = 59) (g7 : ∀ k, st ≤ k → k < cl → t.getD k 0 ≠ 59) (g8 : N ≤ n') (g9 : n' ≤ cl) (g10 : D2 104 37 = nI n') (g11 : TLD D2 t cnt st cl n') : LPI D3 t (cl + 1) (cnt + 1) n' := by
  obtain ⟨h1, h2, h3, h4, h5, h6, h7, h8, h9⟩ := h
  subst hD
  refine ⟨g1.fq (up2_other (by omega)) (up2_ne (by omega)) ((up2_other (by omega)).trans g1.2.2.1) g5, g2, g3, by omega, up2_same, (up2_other (by omega)).trans g10, by omega, ?_, fun q => by omega⟩
  refine CHF.eq (D := D2) (fun b x y => up2_ne (by omega)) _ _ _ ?_
  exact CHF.snoc _ _ _ (CHF.fq gf (Nat.le_refl _) g8 _ _ _ (by omega) h8) (by rw [Nat.zero_add]; exact g11) g4 g5 g6 g7
theorem inv2_tape0 {D : Mem} {S : St} (h : INV2 D S) : INV2 (up2 D 104 33 0) (sT S) ∧ Fr inR D (up2 D 104 33 0) := by
  obtain ⟨hb, ⟨s1, s2, s3, s4, s5, s6, s7⟩⟩ := h
  have e : ∀ b, b ≠ 104 → up2 D 104 33 0 b = D b := fun b hb => up2_ne hb
  refine ⟨⟨?_, ?_⟩, Fr.up (by unfold inR; omega)⟩
  · obtain ⟨h1, h2, h3⟩ := hb
    refine ⟨fun i hi => ⟨(congrFun (e 106 (by omega)) i).trans (h1 i hi).1, (congrFun (e 107 (by omega)) i).trans (h1 i hi).2⟩, (up2_other (by omega)).trans h2, fun i hi => ?_⟩
    rw [e 108 (by omega), e 109 (by omega), e 110 (by omega), e 111 (by omega), e 112 (by omega), e 113 (by omega)]
    exact h3 i hi
  · refine ⟨(up2_other (by omega)).trans s1, up2_same, fun k hk => absurd hk (Nat.not_lt_zero _), (up2_other (by omega)).trans s4, fun k hk => (congrFun (e 137 (by omega)) k).trans (s5 k hk), fun i a b => (congrFun (e 105 (by omega)) i).trans (s6 i a b), fun q => ?_⟩
    have := s7 q
    unfold KB at *
    rw [e 132 (by omega)]
    exact this
theorem KB.eq {D D' : Mem} {o : Nat} {B : Bk} (h : KB D o B) (he : D' 132 = D 132) : KB D' o B := by
  unfold KB at *
  rw [he]; exact h
theorem mt_none {S : St} {v : Int32} (e : tbS (tl S) (bk S) = (v, none)) : m_table S = (v, sT S) := by unfold m_table; rw [e]
theorem mt_some {S : St} {v : Int32} {B : Bk} (e : tbS (tl S) (bk S) = (v, some B)) : m_table S = (v, sB (sT S) B) := by unfold m_table; rw [e]
theorem tbS_n2 {t : List Nat} {B : Bk} (h : ffp t = none) : tbS t B = rdS t 0 t.length 0 0 B := by unfold tbS; rw [h]
theorem OBR.n0 {D D' : Mem} {u : Int32} {o : Option Bk} (h : OBR D D' u o) (hu : u = 0) : o = none := by
  cases o with
  | none => rfl
  | some s => exact absurd (h.2.1.symm.trans hu) (by decide)
theorem OBR.n1 {D D' : Mem} {u : Int32} {o : Option Bk} (h : OBR D D' u o) (hu : ¬ u = 0) : ∃ B, o = some B ∧ RB D' B (th_ B) (kd_ B) (fg_ B) ∧ VB B ∧ PDB B := by
  cases o with
  | none => exact absurd h.2 hu
  | some s => exact ⟨s, rfl, h.2.2⟩
theorem WF.sT {S : St} (h : WF S) : WF (sT S) := ⟨h.1, h.2.1, h.2.2.1, Nat.zero_le _, h.2.2.2.2.1, fun x hx => absurd hx List.not_mem_nil, h.2.2.2.2.2.2⟩
theorem dX8_table_0 : decode cX8_table 0 = .ok (.aload_n 0, 1) := by decide +kernel
theorem dX8_table_1 : decode cX8_table 1 = .ok (.iconst 0, 1) := by decide +kernel
theorem dX8_table_2 : decode cX8_table 2 = .ok (.putfield 214, 3) := by decide +kernel
theorem dX8_table_5 : decode cX8_table 5 = .ok (.aload_n 0, 1) := by decide +kernel
theorem dX8_table_6 : decode cX8_table 6 = .ok (.iconst 0, 1) := by decide +kernel
theorem dX8_table_7 : decode cX8_table 7 = .ok (.putfield 227, 3) := by decide +kernel
theorem dX8_table_10 : decode cX8_table 10 = .ok (.aload_n 0, 1) := by decide +kernel
theorem dX8_table_11 : decode cX8_table 11 = .ok (.iconst 0, 1) := by decide +kernel
theorem dX8_table_12 : decode cX8_table 12 = .ok (.putfield 224, 3) := by decide +kernel
theorem dX8_table_15 : decode cX8_table 15 = .ok (.iconst 1, 1) := by decide +kernel
theorem dX8_table_16 : decode cX8_table 16 = .ok (.istore_n 1, 1) := by decide +kernel
theorem dX8_table_17 : decode cX8_table 17 = .ok (.iload_n 1, 1) := by decide +kernel
theorem dX8_table_18 : decode cX8_table 18 = .ok (.ifCond .eq 47, 3) := by decide +kernel
theorem dX8_table_21 : decode cX8_table 21 = .ok (.aload_n 0, 1) := by decide +kernel
theorem dX8_table_22 : decode cX8_table 22 = .ok (.getfield 214, 3) := by decide +kernel
theorem dX8_table_25 : decode cX8_table 25 = .ok (.aload_n 0, 1) := by decide +kernel
theorem dX8_table_26 : decode cX8_table 26 = .ok (.getfield 208, 3) := by decide +kernel
theorem dX8_table_29 : decode cX8_table 29 = .ok (.if_icmp .lt 10, 3) := by decide +kernel
theorem dX8_table_32 : decode cX8_table 32 = .ok (.aload_n 0, 1) := by decide +kernel
theorem dX8_table_33 : decode cX8_table 33 = .ok (.getfield 227, 3) := by decide +kernel
theorem dX8_table_36 : decode cX8_table 36 = .ok (.ifCond .ne 29, 3) := by decide +kernel
theorem dX8_table_39 : decode cX8_table 39 = .ok (.aload_n 0, 1) := by decide +kernel
theorem dX8_table_40 : decode cX8_table 40 = .ok (.invokevirtual 266, 3) := by decide +kernel
theorem dX8_table_43 : decode cX8_table 43 = .ok (.istore_n 1, 1) := by decide +kernel
theorem dX8_table_44 : decode cX8_table 44 = .ok (.aload_n 0, 1) := by decide +kernel
theorem dX8_table_45 : decode cX8_table 45 = .ok (.dup, 1) := by decide +kernel
theorem dX8_table_46 : decode cX8_table 46 = .ok (.getfield 227, 3) := by decide +kernel
theorem dX8_table_49 : decode cX8_table 49 = .ok (.iload_n 1, 1) := by decide +kernel
theorem dX8_table_50 : decode cX8_table 50 = .ok (.ifCond .eq 7, 3) := by decide +kernel
theorem dX8_table_53 : decode cX8_table 53 = .ok (.iconst 1, 1) := by decide +kernel
theorem dX8_table_54 : decode cX8_table 54 = .ok (.goto 4, 3) := by decide +kernel
theorem dX8_table_57 : decode cX8_table 57 = .ok (.iconst 0, 1) := by decide +kernel
theorem dX8_table_58 : decode cX8_table 58 = .ok (.iadd, 1) := by decide +kernel
theorem dX8_table_59 : decode cX8_table 59 = .ok (.putfield 227, 3) := by decide +kernel
theorem dX8_table_62 : decode cX8_table 62 = .ok (.goto (-45), 3) := by decide +kernel
theorem dX8_table_65 : decode cX8_table 65 = .ok (.aload_n 0, 1) := by decide +kernel
theorem dX8_table_66 : decode cX8_table 66 = .ok (.iconst 0, 1) := by decide +kernel
theorem dX8_table_67 : decode cX8_table 67 = .ok (.putfield 208, 3) := by decide +kernel
theorem dX8_table_70 : decode cX8_table 70 = .ok (.iload_n 1, 1) := by decide +kernel
theorem dX8_table_71 : decode cX8_table 71 = .ok (.ifCond .ne 12, 3) := by decide +kernel
theorem dX8_table_74 : decode cX8_table 74 = .ok (.sipush (-1000), 3) := by decide +kernel
theorem dX8_table_77 : decode cX8_table 77 = .ok (.aload_n 0, 1) := by decide +kernel
theorem dX8_table_78 : decode cX8_table 78 = .ok (.getfield 214, 3) := by decide +kernel
theorem dX8_table_81 : decode cX8_table 81 = .ok (.isub, 1) := by decide +kernel
theorem dX8_table_82 : decode cX8_table 82 = .ok (.ireturn, 1) := by decide +kernel
theorem dX8_table_83 : decode cX8_table 83 = .ok (.aload_n 0, 1) := by decide +kernel
theorem dX8_table_84 : decode cX8_table 84 = .ok (.iconst 1, 1) := by decide +kernel
theorem dX8_table_85 : decode cX8_table 85 = .ok (.iconst 1, 1) := by decide +kernel
theorem dX8_table_86 : decode cX8_table 86 = .ok (.invokevirtual 269, 3) := by decide +kernel
theorem dX8_table_89 : decode cX8_table 89 = .ok (.iconst 0, 1) := by decide +kernel
theorem dX8_table_90 : decode cX8_table 90 = .ok (.istore_n 2, 1) := by decide +kernel
theorem dX8_table_91 : decode cX8_table 91 = .ok (.iload_n 2, 1) := by decide +kernel
theorem dX8_table_92 : decode cX8_table 92 = .ok (.aload_n 0, 1) := by decide +kernel
theorem dX8_table_93 : decode cX8_table 93 = .ok (.getfield 227, 3) := by decide +kernel
theorem dX8_table_96 : decode cX8_table 96 = .ok (.if_icmp .ge 37, 3) := by decide +kernel
theorem dX8_table_99 : decode cX8_table 99 = .ok (.aload_n 0, 1) := by decide +kernel
theorem dX8_table_100 : decode cX8_table 100 = .ok (.iload_n 2, 1) := by decide +kernel
theorem dX8_table_101 : decode cX8_table 101 = .ok (.invokevirtual 273, 3) := by decide +kernel
theorem dX8_table_104 : decode cX8_table 104 = .ok (.ifCond .eq 6, 3) := by decide +kernel
theorem dX8_table_107 : decode cX8_table 107 = .ok (.goto 20, 3) := by decide +kernel
theorem dX8_table_110 : decode cX8_table 110 = .ok (.aload_n 0, 1) := by decide +kernel
theorem dX8_table_111 : decode cX8_table 111 = .ok (.iconst 1, 1) := by decide +kernel
theorem dX8_table_112 : decode cX8_table 112 = .ok (.iconst 0, 1) := by decide +kernel
theorem dX8_table_113 : decode cX8_table 113 = .ok (.invokevirtual 269, 3) := by decide +kernel
theorem dX8_table_116 : decode cX8_table 116 = .ok (.sipush (-2000), 3) := by decide +kernel
theorem dX8_table_119 : decode cX8_table 119 = .ok (.aload_n 0, 1) := by decide +kernel
theorem dX8_table_120 : decode cX8_table 120 = .ok (.getfield 76, 3) := by decide +kernel
theorem dX8_table_123 : decode cX8_table 123 = .ok (.iload_n 2, 1) := by decide +kernel
theorem dX8_table_124 : decode cX8_table 124 = .ok (.iaload, 1) := by decide +kernel
theorem dX8_table_125 : decode cX8_table 125 = .ok (.isub, 1) := by decide +kernel
theorem dX8_table_126 : decode cX8_table 126 = .ok (.ireturn, 1) := by decide +kernel
theorem dX8_table_127 : decode cX8_table 127 = .ok (.iinc 2 1, 3) := by decide +kernel
theorem dX8_table_130 : decode cX8_table 130 = .ok (.goto (-39), 3) := by decide +kernel
theorem dX8_table_133 : decode cX8_table 133 = .ok (.aload_n 0, 1) := by decide +kernel
theorem dX8_table_134 : decode cX8_table 134 = .ok (.getfield 227, 3) := by decide +kernel
theorem dX8_table_137 : decode cX8_table 137 = .ok (.ireturn, 1) := by decide +kernel
theorem lp_X8_table2 {S : St} {D D0 : Mem} {t : List Nat} {cnt N : Nat} (ht : t = tl S) (hw : WF S) (h86 : INV2 D (sT S)) (hKB : KB D 98 (bk S)) (hcnt : D 104 35 = nI cnt) (hFr : Fr inR D0 D) (hfok : fok t) (hc32 : cnt ≤ 32) (hN : N ≤ 96) : ∀ (m : Nat) (s st : Nat) (B : Bk) (D3 : Mem), s + m = cnt → CHF D t N t.length s st m → qs t st = 0 → RB D3 B (th_ B) (kd_ B) (fg_ B) → VB B → PDB B → Fq BKS D D3 → rdS t st (t.length - st) st s B = tbS t (bk S) → X 5 138 j_X8_table 91 [some (.ref 104), some (.int 1), some (.int (nI s))] [] (138, P0, D3) (fun x σ => ∃ (u : Int32) (D' : Mem), x = [.int u] ∧ σ = wd D' ∧ CK2 D0 (m_table S) u D') := by
  intro m
  induction m with
  | zero =>
    intro s st B D3 hi hch hq hb hV hP hf hrd
    have h256 : ∀ x ∈ t, x < 256 := (by rw [ht]; exact hw.2.2.2.2.2.1)
    have h35 : D3 104 35 = nI cnt := (hf 104 35 (by unfold BKS; omega)).trans hcnt
    refine X_iload_n (nx := 92) dX8_table_91 rfl rfl rfl ?_
    refine X_aload_n (nx := 93) dX8_table_92 rfl rfl rfl ?_
    refine M_getI (nx := 96) dX8_table_93 rfl fl_RX8_227 rfl (by first | assumption | rfl | decide | omega) (by first | assumption | rfl | decide | omega) ?_
    refine X_top (h35) ?_
    refine X_icmp_ge (tgt := 133) (nx := 99) dX8_table_96 rfl rfl (fun h96 => ?_) (fun h96 => ?_)
    · skip
      refine X_aload_n (nx := 134) dX8_table_133 rfl rfl rfl ?_
      refine M_getI (nx := 137) dX8_table_134 rfl fl_RX8_227 rfl (by first | assumption | rfl | decide | omega) (by first | assumption | rfl | decide | omega) ?_
      refine X_top (h35) ?_
      exact Z_reti dX8_table_137 (Or.inl rfl) (by
        have e1 : st = t.length := hch
        subst e1
        rw [Nat.sub_self] at hrd
        have e : tbS (tl S) (bk S) = (nI s, some B) := (by rw [← ht, ← hrd]; rfl)
        have hv := inv_on h86 hw.sT hb (hf.mono (fun b i q => Or.inl q))
        rw [mt_some e]
        obtain rfl : s = cnt := (by omega)
        exact ⟨rfl, hv.1, hFr.tr hv.2⟩)
    · exact absurd h96 (fun q => q (nI_le (by omega) (by omega)))
  | succ m ih =>
    intro s st B D3 hi hch hq hb hV hP hf hrd
    have h256 : ∀ x ∈ t, x < 256 := (by rw [ht]; exact hw.2.2.2.2.2.1)
    have h35 : D3 104 35 = nI cnt := (hf 104 35 (by unfold BKS; omega)).trans hcnt
    obtain ⟨cl, k1, k2, k3, k4, k5, k6⟩ := hch
    have hstm := stm_of hfok hq (by omega) k3 k5 k4
    have hskip := rdS_skip (t := t) (st := st) (n := s) (M := t.length - (cl + 1)) (B := B) k4 (cl - st) st (by omega) k5
    rw [show t.length - st = (cl - st) + ((t.length - (cl + 1)) + 1) by omega] at hrd
    refine X_iload_n (nx := 92) dX8_table_91 rfl rfl rfl ?_
    refine X_aload_n (nx := 93) dX8_table_92 rfl rfl rfl ?_
    refine M_getI (nx := 96) dX8_table_93 rfl fl_RX8_227 rfl (by first | assumption | rfl | decide | omega) (by first | assumption | rfl | decide | omega) ?_
    refine X_top (h35) ?_
    refine X_icmp_ge (tgt := 133) (nx := 99) dX8_table_96 rfl rfl (fun h96 => ?_) (fun h96 => ?_)
    · exact absurd h96 (nI_ge (by omega) (by omega))
    · skip
      refine X_aload_n (nx := 100) dX8_table_99 rfl rfl rfl ?_
      refine X_iload_n (nx := 101) dX8_table_100 rfl rfl rfl ?_
      refine Z_Vi1 (nx := 104) dX8_table_101 rfl ml_RX8_273 kj_X8_comesTold kv_X8_comesTold (sp_X8_comesTold hb hV hP h256 (by omega) hN (k1.eq (fun b x y => hf.row (fun i => by unfold BKS; omega))) hstm rfl) (by first | assumption | rfl | decide | omega) (by first | assumption | rfl | decide | omega) (by decide) rfl (by first | decide | omega) (by exact Nat.le_of_ble_eq_true rfl) (fun u101 D101 g101 => ?_)
      have hf2 : Fq BKS D D101 := hf.tr g101.1
      refine X_if_eq (tgt := 110) (nx := 107) dX8_table_104 rfl rfl (fun h104 => ?_) (fun h104 => ?_)
      · skip
        have hno := g101.n0 h104
        refine X_aload_n (nx := 111) dX8_table_110 rfl rfl rfl ?_
        refine X_iconst (v := 1) (nx := 112) dX8_table_111 rfl rfl ?_
        refine X_iconst (v := 0) (nx := 113) dX8_table_112 rfl rfl ?_
        refine Z_Vv2 (nx := 116) dX8_table_113 rfl ml_RX8_269 kj_X8_passesAll kv_X8_passesAll (sp_restAll (B := bk S) (w := 1) (o := 98) hw.1 (hKB.eq (hf2.row (fun i => by unfold BKS; omega))) rfl rfl (by omega)) (by first | assumption | rfl | decide | omega) (by first | assumption | rfl | decide | omega) (by decide) rfl (by first | decide | omega) (by exact Nat.le_of_ble_eq_true rfl) (fun D113 g113 => ?_)
        refine X_sipush (v := -2000) (nx := 119) dX8_table_116 rfl rfl ?_
        refine X_aload_n (nx := 120) dX8_table_119 rfl rfl rfl ?_
        refine M_getP (nx := 123) dX8_table_120 rfl fl_RX8_76 rfl (by first | assumption | rfl | decide | omega) (by first | assumption | rfl | decide | omega) (by first | assumption | rfl | decide | omega) ?_
        refine X_iload_n (nx := 124) dX8_table_123 rfl rfl rfl ?_
        refine M_ld (a := 127) (L := 33) (nx := 125) dX8_table_124 rfl (by decide) (by decide) rfl (by decide) (by omega) ((congrFun (g113.2.row (b := 127) (fun i => by unfold RSS BKS; omega)) s).trans ((congrFun (hf2.row (b := 127) (fun i => by unfold BKS; omega)) s).trans k1.2.1)) ?_
        refine X_isub (nx := 126) dX8_table_125 rfl ?_
        exact Z_reti dX8_table_126 (Or.inl rfl) (by
          have e : tbS (tl S) (bk S) = (-2000 - nI st, none) := (by rw [← ht, ← hrd]; exact hskip.1 hno)
          have hv := inv_on h86 hw.sT g113.1 ((hf2.mono (fun b i q => Or.inl q)).tr g113.2)
          rw [mt_none e]
          exact ⟨rfl, hv.1, hFr.tr hv.2⟩)
      · skip
        obtain ⟨B2, ho, hb2, hV2, hP2⟩ := g101.n1 h104
        refine X_goto (tgt := 127) dX8_table_107 rfl ?_
        refine X_iinc (nx := 130) dX8_table_127 rfl (by decide) rfl (by first | exact ii1 _ | rfl) rfl (st_s (st_s (st_0))) ?_
        refine X_goto (tgt := 91) dX8_table_130 rfl ?_
        exact ih (s + 1) (cl + 1) B2 D101 (by omega) k6 (qs_59 hfok k3 k4) hb2 hV2 hP2 hf2 ((hskip.2 B2 ho).symm.trans hrd)
theorem lp_X8_table1 {t : List Nat} {D : Mem} {Q : List Value → Wd → Prop} (hOK : ∀ (D1 : Mem) (st cnt N : Nat), LPI D1 t st cnt N → st = t.length → 0 < cnt → Fq TBQ D D1 → X 5 138 j_X8_table 65 [some (.ref 104), some (.int 1), none] [] (138, P0, D1) Q) (hNO : ∀ (D1 : Mem) (j : Nat), D1 104 34 = nI j → ffp t = some j → Fq TBQ D D1 → X 5 138 j_X8_table 17 [some (.ref 104), some (.int 0), none] [] (138, P0, D1) Q) : ∀ (m : Nat) (st cnt N : Nat) (D1 : Mem), t.length ≤ st + m → LPI D1 t st cnt N → Fq TBQ D D1 → X 5 138 j_X8_table 17 [some (.ref 104), some (.int 1), none] [] (138, P0, D1) (Q) := by
  intro m
  induction m with
  | zero =>
    intro st cnt N D1 hm hL hF
    obtain ⟨hT, hA, hq, h3, h35, h37, hN, hch, hz⟩ := id hL
    have h96 := hT.2.2.2.2.1
    have hle := hT.2.2.2.1
    refine X_iload_n (nx := 18) dX8_table_17 rfl rfl rfl ?_
    refine X_if_eq (tgt := 65) (nx := 21) dX8_table_18 rfl rfl (fun h18 => ?_) (fun h18 => ?_)
    · exact absurd h18 (by decide)
    · skip
      refine X_aload_n (nx := 22) dX8_table_21 rfl rfl rfl ?_
      refine M_getI (nx := 25) dX8_table_22 rfl fl_RX8_214 rfl (by first | assumption | rfl | decide | omega) (by first | assumption | rfl | decide | omega) ?_
      refine X_top (hT.2.2.1) ?_
      refine X_aload_n (nx := 26) dX8_table_25 rfl rfl rfl ?_
      refine M_getI (nx := 29) dX8_table_26 rfl fl_RX8_208 rfl (by first | assumption | rfl | decide | omega) (by first | assumption | rfl | decide | omega) ?_
      refine X_top (hT.1) ?_
      refine X_icmp_lt (tgt := 39) (nx := 32) dX8_table_29 rfl rfl (fun h29 => ?_) (fun h29 => ?_)
      · skip
        rw [nI_ltI (by omega) (by omega)] at h29
        refine X_aload_n (nx := 40) dX8_table_39 rfl rfl rfl ?_
        refine Z_Vi0 (nx := 43) dX8_table_40 rfl ml_RX8_266 kj_X8_statement kv_X8_statement (sp_X8_statement hT hA hq (by omega) h35 h3 h37 hN) (by first | assumption | rfl | decide | omega) (by first | assumption | rfl | decide | omega) (by decide) rfl (by first | decide | omega) (by exact Nat.le_of_ble_eq_true rfl) (fun u40 D40 g40 => ?_)
        refine X_istore_n (i := 1) (nx := 44) dX8_table_43 rfl rfl (by decide) rfl (st_s (st_0)) ?_
        refine X_aload_n (nx := 45) dX8_table_44 rfl rfl rfl ?_
        refine X_dup (nx := 46) dX8_table_45 rfl rfl ?_
        refine M_getI (nx := 49) dX8_table_46 rfl fl_RX8_227 rfl (by first | assumption | rfl | decide | omega) (by first | assumption | rfl | decide | omega) ?_
        refine X_top ((g40.1 104 35 (by unfold STQ; omega)).trans h35) ?_
        refine X_iload_n (nx := 50) dX8_table_49 rfl rfl rfl ?_
        refine X_if_eq (tgt := 57) (nx := 53) dX8_table_50 rfl rfl (fun h50 => ?_) (fun h50 => ?_)
        · skip
          refine X_iconst (v := 0) (nx := 58) dX8_table_57 rfl rfl ?_
          refine X_iadd (nx := 59) dX8_table_58 rfl ?_
          refine M_putI (nx := 62) dX8_table_59 rfl fl_RX8_227 rfl rfl (by first | assumption | rfl | decide | omega) (by first | assumption | rfl | decide | omega) ?_
          refine X_goto (tgt := 17) dX8_table_62 rfl ?_
          obtain ⟨gf, g⟩ := g40
          rcases g with ⟨e, cl, n', g1, g2, g3, g4, g5, g6, g7, g8, g9, g10, g11⟩ | ⟨e, j, g1, g2⟩
          · first
            | exact absurd (e.symm.trans h50) (by decide)
            | (subst e; omega)
          · first
            | exact absurd e h50
            | (subst e; exact hNO _ j ((up2_other (by omega)).trans g1) g2 ((hF.tr (STQ.tb gf)).tr (Fq.up (by unfold TBQ; omega))))
        · skip
          refine X_iconst (v := 1) (nx := 54) dX8_table_53 rfl rfl ?_
          refine X_goto (tgt := 58) dX8_table_54 rfl ?_
          refine X_iadd (nx := 59) dX8_table_58 rfl ?_
          refine M_putI (nx := 62) dX8_table_59 rfl fl_RX8_227 rfl rfl (by first | assumption | rfl | decide | omega) (by first | assumption | rfl | decide | omega) ?_
          refine X_goto (tgt := 17) dX8_table_62 rfl ?_
          obtain ⟨gf, g⟩ := g40
          rcases g with ⟨e, cl, n', g1, g2, g3, g4, g5, g6, g7, g8, g9, g10, g11⟩ | ⟨e, j, g1, g2⟩
          · first
            | exact absurd (e.symm.trans h50) (by decide)
            | (subst e; omega)
          · first
            | exact absurd e h50
            | (subst e; exact hNO _ j ((up2_other (by omega)).trans g1) g2 ((hF.tr (STQ.tb gf)).tr (Fq.up (by unfold TBQ; omega))))
      · skip
        rw [nI_ltI (by omega) (by omega)] at h29
        refine X_aload_n (nx := 33) dX8_table_32 rfl rfl rfl ?_
        refine M_getI (nx := 36) dX8_table_33 rfl fl_RX8_227 rfl (by first | assumption | rfl | decide | omega) (by first | assumption | rfl | decide | omega) ?_
        refine X_top (h35) ?_
        refine X_if_ne (tgt := 65) (nx := 39) dX8_table_36 rfl rfl (fun h36 => ?_) (fun h36 => ?_)
        · skip
          rw [nI_0' (by omega)] at h36
          exact hOK D1 st cnt N hL (by omega) (by omega) hF
        · skip
          rw [nI_0' (by omega)] at h36
          refine X_aload_n (nx := 40) dX8_table_39 rfl rfl rfl ?_
          refine Z_Vi0 (nx := 43) dX8_table_40 rfl ml_RX8_266 kj_X8_statement kv_X8_statement (sp_X8_statement hT hA hq (by omega) h35 h3 h37 hN) (by first | assumption | rfl | decide | omega) (by first | assumption | rfl | decide | omega) (by decide) rfl (by first | decide | omega) (by exact Nat.le_of_ble_eq_true rfl) (fun u40 D40 g40 => ?_)
          refine X_istore_n (i := 1) (nx := 44) dX8_table_43 rfl rfl (by decide) rfl (st_s (st_0)) ?_
          refine X_aload_n (nx := 45) dX8_table_44 rfl rfl rfl ?_
          refine X_dup (nx := 46) dX8_table_45 rfl rfl ?_
          refine M_getI (nx := 49) dX8_table_46 rfl fl_RX8_227 rfl (by first | assumption | rfl | decide | omega) (by first | assumption | rfl | decide | omega) ?_
          refine X_top ((g40.1 104 35 (by unfold STQ; omega)).trans h35) ?_
          refine X_iload_n (nx := 50) dX8_table_49 rfl rfl rfl ?_
          refine X_if_eq (tgt := 57) (nx := 53) dX8_table_50 rfl rfl (fun h50 => ?_) (fun h50 => ?_)
          · skip
            refine X_iconst (v := 0) (nx := 58) dX8_table_57 rfl rfl ?_
            refine X_iadd (nx := 59) dX8_table_58 rfl ?_
            refine M_putI (nx := 62) dX8_table_59 rfl fl_RX8_227 rfl rfl (by first | assumption | rfl | decide | omega) (by first | assumption | rfl | decide | omega) ?_
            refine X_goto (tgt := 17) dX8_table_62 rfl ?_
            obtain ⟨gf, g⟩ := g40
            rcases g with ⟨e, cl, n', g1, g2, g3, g4, g5, g6, g7, g8, g9, g10, g11⟩ | ⟨e, j, g1, g2⟩
            · first
              | exact absurd (e.symm.trans h50) (by decide)
              | (subst e; omega)
            · first
              | exact absurd e h50
              | (subst e; exact hNO _ j ((up2_other (by omega)).trans g1) g2 ((hF.tr (STQ.tb gf)).tr (Fq.up (by unfold TBQ; omega))))
          · skip
            refine X_iconst (v := 1) (nx := 54) dX8_table_53 rfl rfl ?_
            refine X_goto (tgt := 58) dX8_table_54 rfl ?_
            refine X_iadd (nx := 59) dX8_table_58 rfl ?_
            refine M_putI (nx := 62) dX8_table_59 rfl fl_RX8_227 rfl rfl (by first | assumption | rfl | decide | omega) (by first | assumption | rfl | decide | omega) ?_
            refine X_goto (tgt := 17) dX8_table_62 rfl ?_
            obtain ⟨gf, g⟩ := g40
            rcases g with ⟨e, cl, n', g1, g2, g3, g4, g5, g6, g7, g8, g9, g10, g11⟩ | ⟨e, j, g1, g2⟩
            · first
              | exact absurd (e.symm.trans h50) (by decide)
              | (subst e; omega)
            · first
              | exact absurd e h50
              | (subst e; exact hNO _ j ((up2_other (by omega)).trans g1) g2 ((hF.tr (STQ.tb gf)).tr (Fq.up (by unfold TBQ; omega))))
  | succ m ih =>
    intro st cnt N D1 hm hL hF
    obtain ⟨hT, hA, hq, h3, h35, h37, hN, hch, hz⟩ := id hL
    have h96 := hT.2.2.2.2.1
    have hle := hT.2.2.2.1
    refine X_iload_n (nx := 18) dX8_table_17 rfl rfl rfl ?_
    refine X_if_eq (tgt := 65) (nx := 21) dX8_table_18 rfl rfl (fun h18 => ?_) (fun h18 => ?_)
    · exact absurd h18 (by decide)
    · skip
      refine X_aload_n (nx := 22) dX8_table_21 rfl rfl rfl ?_
      refine M_getI (nx := 25) dX8_table_22 rfl fl_RX8_214 rfl (by first | assumption | rfl | decide | omega) (by first | assumption | rfl | decide | omega) ?_
      refine X_top (hT.2.2.1) ?_
      refine X_aload_n (nx := 26) dX8_table_25 rfl rfl rfl ?_
      refine M_getI (nx := 29) dX8_table_26 rfl fl_RX8_208 rfl (by first | assumption | rfl | decide | omega) (by first | assumption | rfl | decide | omega) ?_
      refine X_top (hT.1) ?_
      refine X_icmp_lt (tgt := 39) (nx := 32) dX8_table_29 rfl rfl (fun h29 => ?_) (fun h29 => ?_)
      · skip
        rw [nI_ltI (by omega) (by omega)] at h29
        refine X_aload_n (nx := 40) dX8_table_39 rfl rfl rfl ?_
        refine Z_Vi0 (nx := 43) dX8_table_40 rfl ml_RX8_266 kj_X8_statement kv_X8_statement (sp_X8_statement hT hA hq (by omega) h35 h3 h37 hN) (by first | assumption | rfl | decide | omega) (by first | assumption | rfl | decide | omega) (by decide) rfl (by first | decide | omega) (by exact Nat.le_of_ble_eq_true rfl) (fun u40 D40 g40 => ?_)
        refine X_istore_n (i := 1) (nx := 44) dX8_table_43 rfl rfl (by decide) rfl (st_s (st_0)) ?_
        refine X_aload_n (nx := 45) dX8_table_44 rfl rfl rfl ?_
        refine X_dup (nx := 46) dX8_table_45 rfl rfl ?_
        refine M_getI (nx := 49) dX8_table_46 rfl fl_RX8_227 rfl (by first | assumption | rfl | decide | omega) (by first | assumption | rfl | decide | omega) ?_
        refine X_top ((g40.1 104 35 (by unfold STQ; omega)).trans h35) ?_
        refine X_iload_n (nx := 50) dX8_table_49 rfl rfl rfl ?_
        refine X_if_eq (tgt := 57) (nx := 53) dX8_table_50 rfl rfl (fun h50 => ?_) (fun h50 => ?_)
        · skip
          refine X_iconst (v := 0) (nx := 58) dX8_table_57 rfl rfl ?_
          refine X_iadd (nx := 59) dX8_table_58 rfl ?_
          refine M_putI (nx := 62) dX8_table_59 rfl fl_RX8_227 rfl rfl (by first | assumption | rfl | decide | omega) (by first | assumption | rfl | decide | omega) ?_
          refine X_goto (tgt := 17) dX8_table_62 rfl ?_
          obtain ⟨gf, g⟩ := g40
          rcases g with ⟨e, cl, n', g1, g2, g3, g4, g5, g6, g7, g8, g9, g10, g11⟩ | ⟨e, j, g1, g2⟩
          · first
            | exact absurd (e.symm.trans h50) (by decide)
            | (subst e; exact ih _ _ _ _ (by omega) (hL.step gf (by rw [nI_1]) g1 g2 g3 g4 g5 g6 g7 g8 g9 g10 g11) ((hF.tr (STQ.tb gf)).tr (Fq.up (by unfold TBQ; omega))))
          · first
            | exact absurd e h50
            | (subst e; exact hNO _ j ((up2_other (by omega)).trans g1) g2 ((hF.tr (STQ.tb gf)).tr (Fq.up (by unfold TBQ; omega))))
        · skip
          refine X_iconst (v := 1) (nx := 54) dX8_table_53 rfl rfl ?_
          refine X_goto (tgt := 58) dX8_table_54 rfl ?_
          refine X_iadd (nx := 59) dX8_table_58 rfl ?_
          refine M_putI (nx := 62) dX8_table_59 rfl fl_RX8_227 rfl rfl (by first | assumption | rfl | decide | omega) (by first | assumption | rfl | decide | omega) ?_
          refine X_goto (tgt := 17) dX8_table_62 rfl ?_
          obtain ⟨gf, g⟩ := g40
          rcases g with ⟨e, cl, n', g1, g2, g3, g4, g5, g6, g7, g8, g9, g10, g11⟩ | ⟨e, j, g1, g2⟩
          · first
            | exact absurd (e.symm.trans h50) (by decide)
            | (subst e; exact ih _ _ _ _ (by omega) (hL.step gf (by rw [nI_1]) g1 g2 g3 g4 g5 g6 g7 g8 g9 g10 g11) ((hF.tr (STQ.tb gf)).tr (Fq.up (by unfold TBQ; omega))))
          · first
            | exact absurd e h50
            | (subst e; exact hNO _ j ((up2_other (by omega)).trans g1) g2 ((hF.tr (STQ.tb gf)).tr (Fq.up (by unfold TBQ; omega))))
      · skip
        rw [nI_ltI (by omega) (by omega)] at h29
        refine X_aload_n (nx := 33) dX8_table_32 rfl rfl rfl ?_
        refine M_getI (nx := 36) dX8_table_33 rfl fl_RX8_227 rfl (by first | assumption | rfl | decide | omega) (by first | assumption | rfl | decide | omega) ?_
        refine X_top (h35) ?_
        refine X_if_ne (tgt := 65) (nx := 39) dX8_table_36 rfl rfl (fun h36 => ?_) (fun h36 => ?_)
        · skip
          rw [nI_0' (by omega)] at h36
          exact hOK D1 st cnt N hL (by omega) (by omega) hF
        · skip
          rw [nI_0' (by omega)] at h36
          refine X_aload_n (nx := 40) dX8_table_39 rfl rfl rfl ?_
          refine Z_Vi0 (nx := 43) dX8_table_40 rfl ml_RX8_266 kj_X8_statement kv_X8_statement (sp_X8_statement hT hA hq (by omega) h35 h3 h37 hN) (by first | assumption | rfl | decide | omega) (by first | assumption | rfl | decide | omega) (by decide) rfl (by first | decide | omega) (by exact Nat.le_of_ble_eq_true rfl) (fun u40 D40 g40 => ?_)
          refine X_istore_n (i := 1) (nx := 44) dX8_table_43 rfl rfl (by decide) rfl (st_s (st_0)) ?_
          refine X_aload_n (nx := 45) dX8_table_44 rfl rfl rfl ?_
          refine X_dup (nx := 46) dX8_table_45 rfl rfl ?_
          refine M_getI (nx := 49) dX8_table_46 rfl fl_RX8_227 rfl (by first | assumption | rfl | decide | omega) (by first | assumption | rfl | decide | omega) ?_
          refine X_top ((g40.1 104 35 (by unfold STQ; omega)).trans h35) ?_
          refine X_iload_n (nx := 50) dX8_table_49 rfl rfl rfl ?_
          refine X_if_eq (tgt := 57) (nx := 53) dX8_table_50 rfl rfl (fun h50 => ?_) (fun h50 => ?_)
          · skip
            refine X_iconst (v := 0) (nx := 58) dX8_table_57 rfl rfl ?_
            refine X_iadd (nx := 59) dX8_table_58 rfl ?_
            refine M_putI (nx := 62) dX8_table_59 rfl fl_RX8_227 rfl rfl (by first | assumption | rfl | decide | omega) (by first | assumption | rfl | decide | omega) ?_
            refine X_goto (tgt := 17) dX8_table_62 rfl ?_
            obtain ⟨gf, g⟩ := g40
            rcases g with ⟨e, cl, n', g1, g2, g3, g4, g5, g6, g7, g8, g9, g10, g11⟩ | ⟨e, j, g1, g2⟩
            · first
              | exact absurd (e.symm.trans h50) (by decide)
              | (subst e; exact ih _ _ _ _ (by omega) (hL.step gf (by rw [nI_1]) g1 g2 g3 g4 g5 g6 g7 g8 g9 g10 g11) ((hF.tr (STQ.tb gf)).tr (Fq.up (by unfold TBQ; omega))))
            · first
              | exact absurd e h50
              | (subst e; exact hNO _ j ((up2_other (by omega)).trans g1) g2 ((hF.tr (STQ.tb gf)).tr (Fq.up (by unfold TBQ; omega))))
          · skip
            refine X_iconst (v := 1) (nx := 54) dX8_table_53 rfl rfl ?_
            refine X_goto (tgt := 58) dX8_table_54 rfl ?_
            refine X_iadd (nx := 59) dX8_table_58 rfl ?_
            refine M_putI (nx := 62) dX8_table_59 rfl fl_RX8_227 rfl rfl (by first | assumption | rfl | decide | omega) (by first | assumption | rfl | decide | omega) ?_
            refine X_goto (tgt := 17) dX8_table_62 rfl ?_
            obtain ⟨gf, g⟩ := g40
            rcases g with ⟨e, cl, n', g1, g2, g3, g4, g5, g6, g7, g8, g9, g10, g11⟩ | ⟨e, j, g1, g2⟩
            · first
              | exact absurd (e.symm.trans h50) (by decide)
              | (subst e; exact ih _ _ _ _ (by omega) (hL.step gf (by rw [nI_1]) g1 g2 g3 g4 g5 g6 g7 g8 g9 g10 g11) ((hF.tr (STQ.tb gf)).tr (Fq.up (by unfold TBQ; omega))))
            · first
              | exact absurd e h50
              | (subst e; exact hNO _ j ((up2_other (by omega)).trans g1) g2 ((hF.tr (STQ.tb gf)).tr (Fq.up (by unfold TBQ; omega))))
theorem sp_X8_table {S : St} {D : Mem} (h : INV2 D S) (hw : WF S) : Rix 5 j_X8_table [.ref 104] D (fun u D' => CK2 D (m_table S) u D') := by
  refine E.start 2 (ls := [some (.ref 104), none, none]) (by decide +kernel) (Nat.le_of_ble_eq_true rfl) rfl (Nat.le_refl _) (Nat.le_refl _) ?_
  refine X_aload_n (nx := 1) dX8_table_0 rfl rfl rfl ?_
  refine X_iconst (v := 0) (nx := 2) dX8_table_1 rfl rfl ?_
  refine M_putI (nx := 5) dX8_table_2 rfl fl_RX8_214 rfl rfl (by first | assumption | rfl | decide | omega) (by first | assumption | rfl | decide | omega) ?_
  refine X_aload_n (nx := 6) dX8_table_5 rfl rfl rfl ?_
  refine X_iconst (v := 0) (nx := 7) dX8_table_6 rfl rfl ?_
  refine M_putI (nx := 10) dX8_table_7 rfl fl_RX8_227 rfl rfl (by first | assumption | rfl | decide | omega) (by first | assumption | rfl | decide | omega) ?_
  refine X_aload_n (nx := 11) dX8_table_10 rfl rfl rfl ?_
  refine X_iconst (v := 0) (nx := 12) dX8_table_11 rfl rfl ?_
  refine M_putI (nx := 15) dX8_table_12 rfl fl_RX8_224 rfl rfl (by first | assumption | rfl | decide | omega) (by first | assumption | rfl | decide | omega) ?_
  refine X_iconst (v := 1) (nx := 16) dX8_table_15 rfl rfl ?_
  refine X_istore_n (i := 1) (nx := 17) dX8_table_16 rfl rfl (by decide) rfl (st_s (st_0)) ?_
  refine lp_X8_table1 (t := tl S) (D := D) (fun D1 st cnt N hL hst hc0 hF => ?_) (fun D1 j gj gf hF => ?_) (tl S).length 0 0 0 _ (by omega) ?_ ((Fq.up (by unfold TBQ; omega)).tr ((Fq.up (by unfold TBQ; omega)).tr (Fq.up (by unfold TBQ; omega))))
  · obtain ⟨hT, hA, hq, h3, h35, h37, hN, hch, hz⟩ := hL
    have h96 := hT.2.2.2.2.1
    have hs := scr_inv h hw (hF.mono (fun b i q => by unfold TBQ at q; unfold SCR; omega))
    have ha := inv2_tape0 hs.1
    refine X_aload_n (nx := 66) dX8_table_65 rfl rfl rfl ?_
    refine X_iconst (v := 0) (nx := 67) dX8_table_66 rfl rfl ?_
    refine M_putI (nx := 70) dX8_table_67 rfl fl_RX8_208 rfl rfl (by first | assumption | rfl | decide | omega) (by first | assumption | rfl | decide | omega) ?_
    refine X_iload_n (nx := 71) dX8_table_70 rfl rfl rfl ?_
    refine X_if_ne (tgt := 83) (nx := 74) dX8_table_71 rfl rfl (fun h71 => ?_) (fun h71 => ?_)
    · skip
      refine X_aload_n (nx := 84) dX8_table_83 rfl rfl rfl ?_
      refine X_iconst (v := 1) (nx := 85) dX8_table_84 rfl rfl ?_
      refine X_iconst (v := 1) (nx := 86) dX8_table_85 rfl rfl ?_
      refine Z_Vv2 (nx := 89) dX8_table_86 rfl ml_RX8_269 kj_X8_passesAll kv_X8_passesAll (sp_keepAll (B := bk S) (w := 1) (o := 98) hw.1 ha.1.1 rfl rfl (by omega)) (by first | assumption | rfl | decide | omega) (by first | assumption | rfl | decide | omega) (by decide) rfl (by first | decide | omega) (by exact Nat.le_of_ble_eq_true rfl) (fun D86 g86 => ?_)
      refine X_iconst (v := nI 0) (nx := 90) dX8_table_89 rfl rfl ?_
      refine X_istore_n (i := 2) (nx := 91) dX8_table_90 rfl rfl (by decide) rfl (st_s (st_s (st_0))) ?_
      have hv := scr_inv ha.1 hw.sT (g86.2.mono (fun b i q => by unfold KPS at q; unfold SCR; omega))
      have hl : 3 * cnt ≤ 96 := (by omega)
      have hfk : fok (tl S) := ⟨fun k hk => hA k (by omega), by rw [← hst]; exact hq, by omega⟩
      have hfn : ffp (tl S) = none := (by rw [ffp_end hfk.1, if_pos hfk.2])
      refine lp_X8_table2 (t := tl S) (N := N) rfl hw hv.1 g86.1 ?_ ((hs.2.tr ha.2).tr hv.2) hfk (by omega) (by omega) cnt 0 0 (bk S) D86 (Nat.zero_add _) ?_ rfl hv.1.1 hw.1 hw.2.1 Fq.rf ?_
      · rw [g86.2 104 35 (by unfold KPS; omega), up2_other (by omega)]; exact h35
      · rw [← hst]
        exact CHF.eq (fun b x y => (g86.2.row (fun i => by unfold KPS; omega)).trans (up2_ne (by omega))) _ _ _ hch
      · rw [tbS_n2 hfn]; rfl
    · exact absurd h71 (by decide)
  · skip
    refine X_iload_n (nx := 18) dX8_table_17 rfl rfl rfl ?_
    refine X_if_eq (tgt := 65) (nx := 21) dX8_table_18 rfl rfl (fun h18 => ?_) (fun h18 => ?_)
    · skip
      refine X_aload_n (nx := 66) dX8_table_65 rfl rfl rfl ?_
      refine X_iconst (v := 0) (nx := 67) dX8_table_66 rfl rfl ?_
      refine M_putI (nx := 70) dX8_table_67 rfl fl_RX8_208 rfl rfl (by first | assumption | rfl | decide | omega) (by first | assumption | rfl | decide | omega) ?_
      refine X_iload_n (nx := 71) dX8_table_70 rfl rfl rfl ?_
      refine X_if_ne (tgt := 83) (nx := 74) dX8_table_71 rfl rfl (fun h71 => ?_) (fun h71 => ?_)
      · exact absurd h71 (by decide)
      · skip
        refine X_sipush (v := -1000) (nx := 77) dX8_table_74 rfl rfl ?_
        refine X_aload_n (nx := 78) dX8_table_77 rfl rfl rfl ?_
        refine M_getI (nx := 81) dX8_table_78 rfl fl_RX8_214 rfl (by first | assumption | rfl | decide | omega) (by first | assumption | rfl | decide | omega) ?_
        refine X_top ((up2_other (by omega)).trans gj) ?_
        refine X_isub (nx := 82) dX8_table_81 rfl ?_
        exact Z_reti dX8_table_82 (Or.inl rfl) (by
          have hs := scr_inv h hw (hF.mono (fun b i q => by unfold TBQ at q; unfold SCR; omega))
          have ha := inv2_tape0 hs.1
          rw [mt_none (tbS_f gf)]
          exact ⟨rfl, ha.1, hs.2.tr ha.2⟩)
    · exact absurd h18 (by decide)
  · have h2 := h.2
    refine ⟨⟨?_, ?_, ?_, Nat.zero_le _, hw.2.2.2.1, hw.2.2.2.2.2.1⟩, fun k hk => ?_, rfl, Nat.le_refl _, ?_, up2_same, Nat.le_refl _, rfl, fun _ => rfl⟩
    · rw [up2_other (by omega), up2_other (by omega), up2_other (by omega)]; exact h2.2.1
    · rw [up2_ne (by omega), up2_ne (by omega), up2_ne (by omega)]; exact h2.2.2.1
    · rw [up2_other (by omega), up2_other (by omega)]; exact up2_same
    · obtain rfl : k = 0 := (by omega)
      exact (by decide : (0 : Nat) ≠ 10)
    · rw [up2_other (by omega)]; exact up2_same
