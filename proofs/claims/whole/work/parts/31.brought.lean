/-! WHAT A LOOK BRINGS: the trail behind it -/
def chain (B : Bk) : Nat → List (Nat × Nat) → Nat → Prop
  | s, [], f => f = s
  | s, x :: r, f => thN B x.1 = true ∧ mtB B x.1 = true ∧ x.2 = s + (es_ B x.1).length ∧ chain B x.2 r f
theorem chain_add {B : Bk} {i x : Nat} (h1 : thN B i = true) (h2 : mtB B i = true) : ∀ {ms : List (Nat × Nat)} {s g : Nat}, chain B s ms g → x = g + (es_ B i).length → chain B s (ms ++ [(i, x)]) x := by
  intro ms
  induction ms with
  | nil => intro s g h hx; cases h; exact ⟨h1, h2, hx, rfl⟩
  | cons y r ih => intro s g h hx; exact ⟨h.1, h.2.1, h.2.2.1, ih h.2.2.2 hx⟩
def LG (B : Bk) (w v : Nat) (L : List Nat) (r : LR) : Prop := ∀ e ml t, r.1 = some (e, ml, t) → ∃ st, chain B 0 ml st ∧ w.testBit e = true ∧ SVf B v e = true ∧ st + (es_ B e).length ≤ L.length ∧ t = L.length - (st + (es_ B e).length)
theorem LG_none {B : Bk} {w v : Nat} {L : List Nat} {n : Nat} : LG B w v L (none, n) := fun _ _ _ h => by cases h
theorem LG_addc {B : Bk} {w v c : Nat} {L : List Nat} {r : LR} (h : LG B w v L r) : LG B w v L (addc c r) := fun e ml t q => h e ml t q
def PG (B : Bk) (L : List Nat) (q : Nd) (a : Nat) (ms : List (Nat × Nat)) : Prop := ∃ st, chain B 0 ms st ∧ a = st + q.2.length ∧ a ≤ L.length
theorem nxq_geo {B : Bk} {w s a : Nat} {L : List Nat} {q q' : Nd} {ms : List (Nat × Nat)} (h : nxq B w L s a q = some q') (hp : PG B L q a ms) : PG B L q' (a + 1) ms := by
  unfold nxq at h
  split at h
  · cases h
  · next ha =>
    split at h
    · cases h
    · next e he =>
      split at h
      · cases h
      · cases h
        obtain ⟨st, h1, h2, h3⟩ := hp
        exact ⟨st, h1, by simp; omega, by omega⟩
theorem lkM_geo {LK : Nd → Nat → List (Nat × Nat) → LR} {B : Bk} {w v a : Nat} {L : List Nat} {q : Nd} {ms : List (Nat × Nat)} (hLK : ∀ q a ms, PG B L q a ms → LG B w v L (LK q a ms)) (hp : PG B L q a ms) : ∀ n i, LG B w v L (lkM LK B w q a ms i n) := by
  intro n
  induction n with
  | zero => intro i; exact LG_none
  | succ n ih =>
    intro i
    unfold lkM
    split
    · next h =>
      have h1 : MNf B q i = true := by simp only [Bool.and_eq_true] at h; exact h.1
      have hk : LG B w v L (LK (mon B i, []) a (ms ++ [(i, a)])) := by
        unfold MNf AT_ at h1
        simp only [Bool.and_eq_true, decide_eq_true_eq] at h1
        obtain ⟨⟨g1, g2, g3⟩, g4⟩ := h1
        obtain ⟨st, p1, p2, p3⟩ := hp
        exact hLK _ _ _ ⟨a, chain_add g1 g4 p1 (by rw [g3]; exact p2), rfl, p3⟩
      split
      · exact hk
      · exact LG_addc (ih (i + 1))
    · exact ih (i + 1)
theorem lkS_geo {LK : Nd → Nat → List (Nat × Nat) → LR} {B : Bk} {w v a : Nat} {L : List Nat} {st : Bool} {q : Nd} {ms : List (Nat × Nat)} (hLK : ∀ q a ms, PG B L q a ms → LG B w v L (LK q a ms)) (hp : PG B L q a ms) : ∀ l, LG B w v L (lkS LK B w v L st q a ms l) := by
  intro l
  induction l with
  | nil => exact LG_none
  | cons s r ih =>
    unfold lkS
    split
    · next q' hq =>
      have hk := hLK _ _ _ (nxq_geo hq hp)
      split
      · exact hk
      · split
        · exact LG_none
        · exact LG_addc ih
    · split
      · have hm := lkM_geo hLK hp 10 0
        split
        · exact hm
        · exact LG_addc ih
      · split
        · next e he =>
          intro e2 ml t hq
          cases hq
          unfold ebF at he
          obtain ⟨_, _, h3, _⟩ := fst_some he
          simp only [Bool.and_eq_true] at h3
          obtain ⟨h4, h5, h6⟩ := h3
          obtain ⟨st, p1, p2, p3⟩ := hp
          have ha : AT_ B q e = true := by
            split at h4
            · unfold RSf at h4; simp only [Bool.and_eq_true] at h4; exact h4.1
            · split at h4
              · unfold ENf at h4; simp only [Bool.and_eq_true] at h4; exact h4.1
              · cases h4
          unfold AT_ at ha
          simp only [Bool.and_eq_true, decide_eq_true_eq] at ha
          exact ⟨st, p1, h5, h6, by rw [ha.2.2]; omega, by rw [ha.2.2, ← p2]⟩
        · exact ih
theorem lk_geo {B : Bk} {w v : Nat} {L : List Nat} {K F : Nat → Nat} : ∀ n q a ms, PG B L q a ms → LG B w v L (lk B w v L K F n q a ms) := by
  intro n
  induction n with
  | zero => intro q a ms _; exact LG_none
  | succ n ih =>
    intro q a ms hp
    unfold lk
    split
    · exact LG_none
    · exact LG_addc (lkS_geo ih hp _)
theorem mt_geo {B : Bk} {w v p : Nat} {K F : Nat → Nat} : LG B w v (pathL p) (mt B w v p K F) := lk_geo 7 _ _ _ ⟨0, rfl, rfl, Nat.zero_le _⟩
theorem SVf_th {B : Bk} {v e : Nat} (h : SVf B v e = true) : thN B e = true ∧ mtB B e = false ∧ e < cm_ B := by
  unfold SVf at h
  simp only [Bool.and_eq_true, Bool.not_eq_true'] at h
  refine ⟨h.1, h.2.1, ?_⟩
  have := h.1
  unfold thN at this
  simp only [Bool.and_eq_true, decide_eq_true_eq] at this
  exact this.1
theorem mtE_end {B : Bk} {w v p e : Nat} {K F : Nat → Nat} (h : mtE B w v p K F = some e) : w.testBit e = true ∧ SVf B v e = true := by
  unfold mtE at h
  cases hm : (mt B w v p K F).1 with
  | none => rw [hm] at h; cases h
  | some z =>
    obtain ⟨e2, ml, t⟩ := z
    rw [hm] at h
    cases h
    obtain ⟨st, _, h2, h3, _⟩ := mt_geo e2 ml t hm
    exact ⟨h2, h3⟩
/-! asked verbs -/
def avI (B : Bk) (r : Nat) : Int32 := if vb_ B r = 3 then 0 else vb_ B r
def avN (B : Bk) (r : Nat) : Nat := (avI B r).toNatClampNeg
theorem avN_eq {B : Bk} {r : Nat} (hV : VB B) (hr : r < cm_ B) (hm : mtB B r = false) : avI B r = nI (avN B r) ∧ avN B r < 3 := by
  rcases (hV.2.2 r hr).2.2 with ⟨_, v, hv, e⟩ | ⟨_, m, e, _⟩
  · unfold avN avI
    rw [e]
    obtain rfl | rfl | rfl | rfl : v = 0 ∨ v = 1 ∨ v = 2 ∨ v = 3 := by omega
    · decide
    · decide
    · decide
    · decide
  · unfold mtB at hm
    rw [e] at hm
    exact absurd (nI_pos' (by omega)) (of_decide_eq_false hm)
def anyN (f : Nat → Bool) : Nat → Bool
  | 0 => false
  | n + 1 => anyN f n || f n
theorem fst_snoc {p : Nat → Bool} : ∀ (n a : Nat), fst_ p a (n + 1) = match fst_ p a n with
    | some k => some k
    | none => if p (a + n) = true then some (a + n) else none := by
  intro n
  induction n with
  | zero => intro a; rfl
  | succ n ih =>
    intro a
    cases h : p a with
    | true => rw [fst_hit h, fst_hit h]
    | false => rw [fst_step h, fst_step h, ih (a + 1), show a + 1 + n = a + (n + 1) by omega]
theorem cn_none {p : Nat → Bool} : ∀ n, cn p n = 0 ↔ fst_ p 0 n = none := by
  intro n
  induction n with
  | zero => exact ⟨fun _ => rfl, fun _ => rfl⟩
  | succ n ih =>
    rw [cn_s, fst_snoc, Nat.zero_add]
    cases hp : p n with
    | true =>
      rw [if_pos rfl]
      refine ⟨fun q => by omega, fun q => ?_⟩
      split at q <;> cases q
    | false =>
      rw [if_neg (by decide), if_neg (by decide), Nat.add_zero, ih]
      cases fst_ p 0 n <;> simp
theorem cn_le (p : Nat → Bool) : ∀ n, cn p n ≤ n := by
  intro n
  induction n with
  | zero => exact Nat.le_refl _
  | succ n ih => rw [cn_s]; split <;> omega
theorem cn_0 {p : Nat → Bool} {n : Nat} (h : p n = false) : cn p n = cn p (n + 1) ∧ fst_ p 0 n = fst_ p 0 (n + 1) := by
  rw [cn_s, fst_snoc, Nat.zero_add, h]
  refine ⟨rfl, ?_⟩
  cases fst_ p 0 n <;> rfl
theorem cn_1 {p : Nat → Bool} {n : Nat} (h : p n = true) : nI (cn p n) + 1 = nI (cn p (n + 1)) ∧ (nI (cn p n) = 0 → n < 1000 → nI n = opI (fst_ p 0 (n + 1))) ∧ (¬ nI (cn p n) = 0 → opI (fst_ p 0 n) = opI (fst_ p 0 (n + 1))) := by
  refine ⟨by rw [cn_s, if_pos h]; exact nI_1 _, fun q hn => ?_, fun q => ?_⟩
  · have hc := cn_le p n
    have h0 := (nI_0' (by omega)).mp q
    rw [fst_snoc, (cn_none n).mp h0, Nat.zero_add, if_pos h]; rfl
  · rw [fst_snoc]
    cases hf : fst_ p 0 n with
    | some k => rfl
    | none => exact absurd (by rw [(cn_none n).mpr hf]; rfl) q
theorem dX7_askedVerb_0 : decode cX7_askedVerb 0 = .ok (.aload_n 0, 1) := by decide +kernel
theorem dX7_askedVerb_1 : decode cX7_askedVerb 1 = .ok (.getfield 10, 3) := by decide +kernel
theorem dX7_askedVerb_4 : decode cX7_askedVerb 4 = .ok (.iload_n 1, 1) := by decide +kernel
theorem dX7_askedVerb_5 : decode cX7_askedVerb 5 = .ok (.invokevirtual 106, 3) := by decide +kernel
theorem dX7_askedVerb_8 : decode cX7_askedVerb 8 = .ok (.getfield 118, 3) := by decide +kernel
theorem dX7_askedVerb_11 : decode cX7_askedVerb 11 = .ok (.istore_n 2, 1) := by decide +kernel
theorem dX7_askedVerb_12 : decode cX7_askedVerb 12 = .ok (.iload_n 2, 1) := by decide +kernel
theorem dX7_askedVerb_13 : decode cX7_askedVerb 13 = .ok (.iconst 3, 1) := by decide +kernel
theorem dX7_askedVerb_14 : decode cX7_askedVerb 14 = .ok (.if_icmp .ne 7, 3) := by decide +kernel
theorem dX7_askedVerb_17 : decode cX7_askedVerb 17 = .ok (.iconst 0, 1) := by decide +kernel
theorem dX7_askedVerb_18 : decode cX7_askedVerb 18 = .ok (.goto 4, 3) := by decide +kernel
theorem dX7_askedVerb_21 : decode cX7_askedVerb 21 = .ok (.iload_n 2, 1) := by decide +kernel
theorem dX7_askedVerb_22 : decode cX7_askedVerb 22 = .ok (.ireturn, 1) := by decide +kernel
theorem sp_X7_askedVerb {S : St} {K F : Nat → Nat} {r : Nat} {x : Int32} {D : Mem} (h : INVK D S K F) (hx : x = nI r) (hr : r < cm_ (bk S)) : Ei 2 j_X7_askedVerb [.ref 0, .int x] D (avI (bk S) r) (D) := by
  refine E.start 1 (ls := [some (.ref 0), some (.int x), none]) (by decide +kernel) (Nat.le_of_ble_eq_true rfl) rfl (Nat.le_refl _) (Nat.le_refl _) ?_
  subst hx
  have hcm := h.1.2.1.2.1
  obtain ⟨r1, r2, r3, r4, r5⟩ := h.1.1.2.2.2 r hr
  have hisR := ((isB.facts (Or.inl rfl : isB 1)).2.2.2.2.2.2 r (by omega)).2
  have ha : rt 1 r < 138 := hisR.1
  have hc : (lay (rt 1 r)).1 = 3 := hisR.2
  refine X_aload_n (nx := 1) dX7_askedVerb_0 rfl rfl rfl ?_
  refine M_getP (nx := 4) dX7_askedVerb_1 rfl fl_RX7_10 rfl (by first | assumption | rfl | decide | omega) (by first | assumption | rfl | decide | omega) (by first | assumption | rfl | decide | omega) ?_
  refine X_iload_n (nx := 5) dX7_askedVerb_4 rfl rfl rfl ?_
  refine Y_Vr1 (nx := 8) dX7_askedVerb_5 rfl ml_RX7_106 kj_X0_at kv_X0_at (sp_X0_at (Or.inl rfl) (i := r) rfl (by omega)) (by first | assumption | rfl | decide | omega) (by first | assumption | rfl | decide | omega) (by decide) rfl (by first | decide | omega) (by exact Nat.le_of_ble_eq_true rfl) ?_
  refine M_getI (nx := 11) dX7_askedVerb_8 rfl fl_RX7_118 rfl (by first | assumption | rfl | decide | omega) (by first | assumption | rfl | decide | omega) ?_
  refine X_top (r3) ?_
  refine X_istore_n (i := 2) (nx := 12) dX7_askedVerb_11 rfl rfl (by decide) rfl (st_s (st_s (st_0))) ?_
  refine X_iload_n (nx := 13) dX7_askedVerb_12 rfl rfl rfl ?_
  refine X_iconst (v := 3) (nx := 14) dX7_askedVerb_13 rfl rfl ?_
  refine X_icmp_ne (tgt := 21) (nx := 17) dX7_askedVerb_14 rfl rfl (fun h14 => ?_) (fun h14 => ?_)
  · skip
    refine X_iload_n (nx := 22) dX7_askedVerb_21 rfl rfl rfl ?_
    exact Y_reti dX7_askedVerb_22 (Or.inl rfl) (by unfold avI; first | rw [if_neg h14] | rw [if_pos h14]) rfl
  · skip
    refine X_iconst (v := 0) (nx := 18) dX7_askedVerb_17 rfl rfl ?_
    refine X_goto (tgt := 22) dX7_askedVerb_18 rfl ?_
    exact Y_reti dX7_askedVerb_22 (Or.inl rfl) (by unfold avI; first | rw [if_neg h14] | rw [if_pos h14]) rfl
def m_brought (S : St) (x y : Int32) : Int32 × St :=
  if isTh (bk S) x = true then if mtB (bk S) x.toNatClampNeg = true then no_ S 3 else if decide (y = 0 ∨ y = 1) = true then
    (if y = 0 then nI (cn (fun p => decide (ME S (avN (bk S) x.toNatClampNeg) p = some x.toNatClampNeg)) 341) else opI (fst_ (fun p => decide (ME S (avN (bk S) x.toNatClampNeg) p = some x.toNatClampNeg)) 0 341), S) else no_ S 2 else no_ S 1
theorem brg_is {D D' : Mem} {S : St} {v p r : Nat} {u : Int32} (g : BRG D S (kd_ (bk S)) (fg_ (bk S)) (wS S) v p u D') (hr : r < 10) : u = nI r ↔ ME S v p = some r := by
  rw [g.2.2.2.1]
  show opI (ME S v p) = nI r ↔ _
  cases hm : ME S v p with
  | none =>
    refine ⟨fun q => ?_, fun q => by cases q⟩
    have h9 : (-9 : Int32) = nI r := q
    exact absurd (show nI r < 0 by rw [← h9]; decide) (nI_neg (by omega))
  | some k =>
    have hk := g.lt hm
    refine ⟨fun q => ?_, fun q => by cases q; rfl⟩
    exact congrArg some ((nI_eq (by omega) (by omega)).mp q)
theorem dX7_brought_0 : decode cX7_brought 0 = .ok (.aload_n 0, 1) := by decide +kernel
theorem dX7_brought_1 : decode cX7_brought 1 = .ok (.getfield 10, 3) := by decide +kernel
theorem dX7_brought_4 : decode cX7_brought 4 = .ok (.iload_n 1, 1) := by decide +kernel
theorem dX7_brought_5 : decode cX7_brought 5 = .ok (.invokevirtual 103, 3) := by decide +kernel
theorem dX7_brought_8 : decode cX7_brought 8 = .ok (.ifCond .ne 9, 3) := by decide +kernel
theorem dX7_brought_11 : decode cX7_brought 11 = .ok (.aload_n 0, 1) := by decide +kernel
theorem dX7_brought_12 : decode cX7_brought 12 = .ok (.iconst (-1), 1) := by decide +kernel
theorem dX7_brought_13 : decode cX7_brought 13 = .ok (.invokevirtual 51, 3) := by decide +kernel
theorem dX7_brought_16 : decode cX7_brought 16 = .ok (.ireturn, 1) := by decide +kernel
theorem dX7_brought_17 : decode cX7_brought 17 = .ok (.aload_n 0, 1) := by decide +kernel
theorem dX7_brought_18 : decode cX7_brought 18 = .ok (.getfield 10, 3) := by decide +kernel
theorem dX7_brought_21 : decode cX7_brought 21 = .ok (.iload_n 1, 1) := by decide +kernel
theorem dX7_brought_22 : decode cX7_brought 22 = .ok (.invokevirtual 106, 3) := by decide +kernel
theorem dX7_brought_25 : decode cX7_brought 25 = .ok (.invokevirtual 110, 3) := by decide +kernel
theorem dX7_brought_28 : decode cX7_brought 28 = .ok (.ifCond .eq 10, 3) := by decide +kernel
theorem dX7_brought_31 : decode cX7_brought 31 = .ok (.aload_n 0, 1) := by decide +kernel
theorem dX7_brought_32 : decode cX7_brought 32 = .ok (.bipush (-3), 2) := by decide +kernel
theorem dX7_brought_34 : decode cX7_brought 34 = .ok (.invokevirtual 51, 3) := by decide +kernel
theorem dX7_brought_37 : decode cX7_brought 37 = .ok (.ireturn, 1) := by decide +kernel
theorem dX7_brought_38 : decode cX7_brought 38 = .ok (.iload_n 2, 1) := by decide +kernel
theorem dX7_brought_39 : decode cX7_brought 39 = .ok (.invokestatic 197, 3) := by decide +kernel
theorem dX7_brought_42 : decode cX7_brought 42 = .ok (.ifCond .ne 10, 3) := by decide +kernel
theorem dX7_brought_45 : decode cX7_brought 45 = .ok (.aload_n 0, 1) := by decide +kernel
theorem dX7_brought_46 : decode cX7_brought 46 = .ok (.bipush (-2), 2) := by decide +kernel
theorem dX7_brought_48 : decode cX7_brought 48 = .ok (.invokevirtual 51, 3) := by decide +kernel
theorem dX7_brought_51 : decode cX7_brought 51 = .ok (.ireturn, 1) := by decide +kernel
theorem dX7_brought_52 : decode cX7_brought 52 = .ok (.aload_n 0, 1) := by decide +kernel
theorem dX7_brought_53 : decode cX7_brought 53 = .ok (.iload_n 1, 1) := by decide +kernel
theorem dX7_brought_54 : decode cX7_brought 54 = .ok (.invokevirtual 200, 3) := by decide +kernel
theorem dX7_brought_57 : decode cX7_brought 57 = .ok (.istore_n 3, 1) := by decide +kernel
theorem dX7_brought_58 : decode cX7_brought 58 = .ok (.aload_n 0, 1) := by decide +kernel
theorem dX7_brought_59 : decode cX7_brought 59 = .ok (.getfield 10, 3) := by decide +kernel
theorem dX7_brought_62 : decode cX7_brought 62 = .ok (.invokevirtual 125, 3) := by decide +kernel
theorem dX7_brought_65 : decode cX7_brought 65 = .ok (.istore 4, 2) := by decide +kernel
theorem dX7_brought_67 : decode cX7_brought 67 = .ok (.iconst 0, 1) := by decide +kernel
theorem dX7_brought_68 : decode cX7_brought 68 = .ok (.istore 5, 2) := by decide +kernel
theorem dX7_brought_70 : decode cX7_brought 70 = .ok (.bipush (-9), 2) := by decide +kernel
theorem dX7_brought_72 : decode cX7_brought 72 = .ok (.istore 6, 2) := by decide +kernel
theorem dX7_brought_74 : decode cX7_brought 74 = .ok (.iconst 0, 1) := by decide +kernel
theorem dX7_brought_75 : decode cX7_brought 75 = .ok (.istore 7, 2) := by decide +kernel
theorem dX7_brought_77 : decode cX7_brought 77 = .ok (.iload 7, 2) := by decide +kernel
theorem dX7_brought_79 : decode cX7_brought 79 = .ok (.sipush 341, 3) := by decide +kernel
theorem dX7_brought_82 : decode cX7_brought 82 = .ok (.if_icmp .ge 42, 3) := by decide +kernel
theorem dX7_brought_85 : decode cX7_brought 85 = .ok (.aload_n 0, 1) := by decide +kernel
theorem dX7_brought_86 : decode cX7_brought 86 = .ok (.getfield 25, 3) := by decide +kernel
theorem dX7_brought_89 : decode cX7_brought 89 = .ok (.iload 7, 2) := by decide +kernel
theorem dX7_brought_91 : decode cX7_brought 91 = .ok (.iload_n 3, 1) := by decide +kernel
theorem dX7_brought_92 : decode cX7_brought 92 = .ok (.iload 4, 2) := by decide +kernel
theorem dX7_brought_94 : decode cX7_brought 94 = .ok (.invokevirtual 180, 3) := by decide +kernel
theorem dX7_brought_97 : decode cX7_brought 97 = .ok (.iload_n 1, 1) := by decide +kernel
theorem dX7_brought_98 : decode cX7_brought 98 = .ok (.if_icmp .ne 20, 3) := by decide +kernel
theorem dX7_brought_101 : decode cX7_brought 101 = .ok (.iload 5, 2) := by decide +kernel
theorem dX7_brought_103 : decode cX7_brought 103 = .ok (.ifCond .ne 8, 3) := by decide +kernel
theorem dX7_brought_106 : decode cX7_brought 106 = .ok (.iload 7, 2) := by decide +kernel
theorem dX7_brought_108 : decode cX7_brought 108 = .ok (.goto 5, 3) := by decide +kernel
theorem dX7_brought_111 : decode cX7_brought 111 = .ok (.iload 6, 2) := by decide +kernel
theorem dX7_brought_113 : decode cX7_brought 113 = .ok (.istore 6, 2) := by decide +kernel
theorem dX7_brought_115 : decode cX7_brought 115 = .ok (.iinc 5 1, 3) := by decide +kernel
theorem dX7_brought_118 : decode cX7_brought 118 = .ok (.iinc 7 1, 3) := by decide +kernel
theorem dX7_brought_121 : decode cX7_brought 121 = .ok (.goto (-44), 3) := by decide +kernel
theorem dX7_brought_124 : decode cX7_brought 124 = .ok (.iload_n 2, 1) := by decide +kernel
theorem dX7_brought_125 : decode cX7_brought 125 = .ok (.ifCond .ne 8, 3) := by decide +kernel
theorem dX7_brought_128 : decode cX7_brought 128 = .ok (.iload 5, 2) := by decide +kernel
theorem dX7_brought_130 : decode cX7_brought 130 = .ok (.goto 5, 3) := by decide +kernel
theorem dX7_brought_133 : decode cX7_brought 133 = .ok (.iload 6, 2) := by decide +kernel
theorem dX7_brought_135 : decode cX7_brought 135 = .ok (.ireturn, 1) := by decide +kernel
theorem lp_brought {S : St} {D : Mem} {r v : Nat} {y : Int32} (hr : r < 10) (hv : v < 4) : ∀ (m : Nat) (i : Nat) (D1 : Mem), i + m = 341 → INV1 D1 S → Fr inC D D1 → X 21 138 j_X7_brought 77 [some (.ref 0), some (.int (nI r)), some (.int y), some (.int (nI v)), some (.int (nI (wS S))), some (.int (nI (cn (fun p => decide (ME S v p = some r)) i))), some (.int (opI (fst_ (fun p => decide (ME S v p = some r)) 0 i))), some (.int (nI i))] [] (138, P0, D1) (fun x σ => ∃ (u : Int32) (D' : Mem), x = [.int u] ∧ σ = wd D' ∧ CK D (if y = 0 then nI (cn (fun p => decide (ME S v p = some r)) 341) else opI (fst_ (fun p => decide (ME S v p = some r)) 0 341), S) u D') := by
  intro m
  induction m with
  | zero =>
    intro i D1 hi h hf
    refine X_iload (nx := 79) dX7_brought_77 rfl rfl ?_
    refine X_sipush (v := nI 341) (nx := 82) dX7_brought_79 rfl rfl ?_
    refine X_icmp_ge (tgt := 124) (nx := 85) dX7_brought_82 rfl rfl (fun h82 => ?_) (fun h82 => ?_)
    · skip
      refine X_iload_n (nx := 125) dX7_brought_124 rfl rfl rfl ?_
      refine X_if_ne (tgt := 133) (nx := 128) dX7_brought_125 rfl rfl (fun h125 => ?_) (fun h125 => ?_)
      · skip
        refine X_iload (nx := 135) dX7_brought_133 rfl rfl ?_
        exact Z_reti dX7_brought_135 (Or.inl rfl) (by have e : i = 341 := (by omega); rw [e]; first | (rw [if_neg h125]; exact ck_s rfl h hf) | (rw [if_pos h125]; exact ck_s rfl h hf))
      · skip
        refine X_iload (nx := 130) dX7_brought_128 rfl rfl ?_
        refine X_goto (tgt := 135) dX7_brought_130 rfl ?_
        exact Z_reti dX7_brought_135 (Or.inl rfl) (by have e : i = 341 := (by omega); rw [e]; first | (rw [if_neg h125]; exact ck_s rfl h hf) | (rw [if_pos h125]; exact ck_s rfl h hf))
    · exact absurd h82 (fun q => q (nI_le (by omega) (by omega)))
  | succ m ih =>
    intro i D1 hi h hf
    refine X_iload (nx := 79) dX7_brought_77 rfl rfl ?_
    refine X_sipush (v := nI 341) (nx := 82) dX7_brought_79 rfl rfl ?_
    refine X_icmp_ge (tgt := 124) (nx := 85) dX7_brought_82 rfl rfl (fun h82 => ?_) (fun h82 => ?_)
    · exact absurd h82 (nI_ge (by omega) (by omega))
    · skip
      refine X_aload_n (nx := 86) dX7_brought_85 rfl rfl rfl ?_
      refine M_getP (nx := 89) dX7_brought_86 rfl fl_RX7_25 rfl (by first | assumption | rfl | decide | omega) (by first | assumption | rfl | decide | omega) (by first | assumption | rfl | decide | omega) ?_
      refine X_iload (nx := 91) dX7_brought_89 rfl rfl ?_
      refine X_iload_n (nx := 92) dX7_brought_91 rfl rfl rfl ?_
      refine X_iload (nx := 94) dX7_brought_92 rfl rfl ?_
      refine Z_Vi3 (nx := 97) dX7_brought_94 rfl ml_RX7_180 kj_X6_bring kv_X6_bring (sp_X6_bring h rfl (by omega) rfl hv rfl (wS_lt S)) (by first | assumption | rfl | decide | omega) (by first | assumption | rfl | decide | omega) (by decide) rfl (by first | decide | omega) (by exact Nat.le_of_ble_eq_true rfl) (fun u94 D94 g94 => ?_)
      refine X_iload_n (nx := 98) dX7_brought_97 rfl rfl rfl ?_
      refine X_icmp_ne (tgt := 118) (nx := 101) dX7_brought_98 rfl rfl (fun h98 => ?_) (fun h98 => ?_)
      · skip
        have hz := cn_0 (p := (fun p => decide (ME S v p = some r))) (n := i) (decide_eq_false (fun q => h98 ((brg_is g94 hr).mpr q)))
        rw [hz.1, hz.2]
        refine X_iinc (nx := 121) dX7_brought_118 rfl (by decide) rfl (by first | exact ii1 _ | rfl) rfl (st_s (st_s (st_s (st_s (st_s (st_s (st_s (st_0)))))))) ?_
        refine X_goto (tgt := 77) dX7_brought_121 rfl ?_
        exact ih (i + 1) D94 (by omega) g94.1 (hf.tr g94.2.1.sc)
      · skip
        have hz := cn_1 (p := (fun p => decide (ME S v p = some r))) (n := i) (decide_eq_true ((brg_is g94 hr).mp h98))
        refine X_iload (nx := 103) dX7_brought_101 rfl rfl ?_
        refine X_if_ne (tgt := 111) (nx := 106) dX7_brought_103 rfl rfl (fun h103 => ?_) (fun h103 => ?_)
        · skip
          refine X_iload (nx := 113) dX7_brought_111 rfl rfl ?_
          refine X_top (hz.2.2 h103) ?_
          refine X_istore (i := 6) (nx := 115) dX7_brought_113 rfl (by decide) rfl (st_s (st_s (st_s (st_s (st_s (st_s (st_0))))))) ?_
          refine X_iinc (nx := 118) dX7_brought_115 rfl (by decide) rfl hz.1 rfl (st_s (st_s (st_s (st_s (st_s (st_0)))))) ?_
          refine X_iinc (nx := 121) dX7_brought_118 rfl (by decide) rfl (by first | exact ii1 _ | rfl) rfl (st_s (st_s (st_s (st_s (st_s (st_s (st_s (st_0)))))))) ?_
          refine X_goto (tgt := 77) dX7_brought_121 rfl ?_
          exact ih (i + 1) D94 (by omega) g94.1 (hf.tr g94.2.1.sc)
        · skip
          refine X_iload (nx := 108) dX7_brought_106 rfl rfl ?_
          refine X_top (hz.2.1 h103 (by omega)) ?_
          refine X_goto (tgt := 113) dX7_brought_108 rfl ?_
          refine X_istore (i := 6) (nx := 115) dX7_brought_113 rfl (by decide) rfl (st_s (st_s (st_s (st_s (st_s (st_s (st_0))))))) ?_
          refine X_iinc (nx := 118) dX7_brought_115 rfl (by decide) rfl hz.1 rfl (st_s (st_s (st_s (st_s (st_s (st_0)))))) ?_
          refine X_iinc (nx := 121) dX7_brought_118 rfl (by decide) rfl (by first | exact ii1 _ | rfl) rfl (st_s (st_s (st_s (st_s (st_s (st_s (st_s (st_0)))))))) ?_
          refine X_goto (tgt := 77) dX7_brought_121 rfl ?_
          exact ih (i + 1) D94 (by omega) g94.1 (hf.tr g94.2.1.sc)
theorem sp_X7_brought {x y : Int32} {S : St} {D : Mem} (h : INV1 D S) : Rix 21 j_X7_brought [.ref 0, .int x, .int y] D (fun u D' => CK D (m_brought S x y) u D') := by
  refine E.start 5 (ls := [some (.ref 0), some (.int x), some (.int y), none, none, none, none, none]) (by decide +kernel) (Nat.le_of_ble_eq_true rfl) rfl (Nat.le_refl _) (Nat.le_refl _) ?_
  have hcm := h.1.2.1.2.1
  refine X_aload_n (nx := 1) dX7_brought_0 rfl rfl rfl ?_
  refine M_getP (nx := 4) dX7_brought_1 rfl fl_RX7_10 rfl (by first | assumption | rfl | decide | omega) (by first | assumption | rfl | decide | omega) (by first | assumption | rfl | decide | omega) ?_
  refine X_iload_n (nx := 5) dX7_brought_4 rfl rfl rfl ?_
  refine Y_Vi1 (nx := 8) dX7_brought_5 rfl ml_RX7_103 kj_X0_isThere kv_X0_isThere (sp_X0_isThere (Or.inl rfl) h.1.1) (by first | assumption | rfl | decide | omega) (by first | assumption | rfl | decide | omega) (by decide) rfl (by first | decide | omega) (by exact Nat.le_of_ble_eq_true rfl) ?_
  refine X_if_ne (tgt := 17) (nx := 11) dX7_brought_8 rfl rfl (fun h8 => ?_) (fun h8 => ?_)
  · skip
    have c8 := b2i_t.mp h8
    obtain ⟨r, hr, rfl, tr⟩ := isTh_t hcm c8
    have k8 : (nI r).toNatClampNeg = r := nI_clamp (by omega)
    obtain ⟨r1, r2, r3, r4, r5⟩ := h.1.1.2.2.2 r hr
    have hisR := ((isB.facts (Or.inl rfl : isB 1)).2.2.2.2.2.2 r (by omega)).2
    have ha : rt 1 r < 138 := hisR.1
    have hc : (lay (rt 1 r)).1 = 3 := hisR.2
    refine X_aload_n (nx := 18) dX7_brought_17 rfl rfl rfl ?_
    refine M_getP (nx := 21) dX7_brought_18 rfl fl_RX7_10 rfl (by first | assumption | rfl | decide | omega) (by first | assumption | rfl | decide | omega) (by first | assumption | rfl | decide | omega) ?_
    refine X_iload_n (nx := 22) dX7_brought_21 rfl rfl rfl ?_
    refine Y_Vr1 (nx := 25) dX7_brought_22 rfl ml_RX7_106 kj_X0_at kv_X0_at (sp_X0_at (Or.inl rfl) (i := r) rfl (by omega)) (by first | assumption | rfl | decide | omega) (by first | assumption | rfl | decide | omega) (by decide) rfl (by first | decide | omega) (by exact Nat.le_of_ble_eq_true rfl) ?_
    refine Y_Vi0 (nx := 28) dX7_brought_25 rfl ml_RX7_110 kj_X4_isMount kv_X4_isMount (sp_X4_isMount hisR) (by first | assumption | rfl | decide | omega) (by first | assumption | rfl | decide | omega) (by decide) rfl (by first | decide | omega) (by exact Nat.le_of_ble_eq_true rfl) ?_
    refine X_if_eq (tgt := 38) (nx := 31) dX7_brought_28 rfl rfl (fun h28 => ?_) (fun h28 => ?_)
    · skip
      have n28 := nb h28
      rw [r4] at n28
      have m28 : ¬ mtB (bk S) r = true := n28
      obtain ⟨v1, v2⟩ := avN_eq h.1.2.1 hr (Bool.not_eq_true _ ▸ m28)
      refine X_iload_n (nx := 39) dX7_brought_38 rfl rfl rfl ?_
      refine Y_Si1 (nx := 42) dX7_brought_39 rfl ml_RX7_197 kj_X7_isOneOfTwo ks_X7_isOneOfTwo (sp_X7_isOneOfTwo) (by first | decide | omega) (by exact Nat.le_of_ble_eq_true rfl) ?_
      refine X_if_ne (tgt := 52) (nx := 45) dX7_brought_42 rfl rfl (fun h42 => ?_) (fun h42 => ?_)
      · skip
        have c42 := b2i_t.mp h42
        refine X_aload_n (nx := 53) dX7_brought_52 rfl rfl rfl ?_
        refine X_iload_n (nx := 54) dX7_brought_53 rfl rfl rfl ?_
        refine Y_Vi1 (nx := 57) dX7_brought_54 rfl ml_RX7_200 kj_X7_askedVerb kv_X7_askedVerb (sp_X7_askedVerb h rfl hr) (by first | assumption | rfl | decide | omega) (by first | assumption | rfl | decide | omega) (by decide) rfl (by first | decide | omega) (by exact Nat.le_of_ble_eq_true rfl) ?_
        refine X_top (v1) ?_
        refine X_istore_n (i := 3) (nx := 58) dX7_brought_57 rfl rfl (by decide) rfl (st_s (st_s (st_s (st_0)))) ?_
        refine X_aload_n (nx := 59) dX7_brought_58 rfl rfl rfl ?_
        refine M_getP (nx := 62) dX7_brought_59 rfl fl_RX7_10 rfl (by first | assumption | rfl | decide | omega) (by first | assumption | rfl | decide | omega) (by first | assumption | rfl | decide | omega) ?_
        refine Y_Vi0 (nx := 65) dX7_brought_62 rfl ml_RX7_125 kj_X0_thereBits kv_X0_thereBits (sp_X0_thereBits (Or.inl rfl) h.1.1) (by first | assumption | rfl | decide | omega) (by first | assumption | rfl | decide | omega) (by decide) rfl (by first | decide | omega) (by exact Nat.le_of_ble_eq_true rfl) ?_
        refine X_istore (i := 4) (nx := 67) dX7_brought_65 rfl (by decide) rfl (st_s (st_s (st_s (st_s (st_0))))) ?_
        refine X_iconst (v := nI 0) (nx := 68) dX7_brought_67 rfl rfl ?_
        refine X_istore (i := 5) (nx := 70) dX7_brought_68 rfl (by decide) rfl (st_s (st_s (st_s (st_s (st_s (st_0)))))) ?_
        refine X_bipush (v := -9) (nx := 72) dX7_brought_70 rfl rfl ?_
        refine X_istore (i := 6) (nx := 74) dX7_brought_72 rfl (by decide) rfl (st_s (st_s (st_s (st_s (st_s (st_s (st_0))))))) ?_
        refine X_iconst (v := nI 0) (nx := 75) dX7_brought_74 rfl rfl ?_
        refine X_istore (i := 7) (nx := 77) dX7_brought_75 rfl (by decide) rfl (st_s (st_s (st_s (st_s (st_s (st_s (st_s (st_0)))))))) ?_
        (unfold m_brought; rw [if_pos c8, k8, if_neg m28, if_pos c42]; exact lp_brought (by omega) (by omega) 341 0 D rfl h Fr.rf)
      · skip
        have n42 := nb h42
        refine X_aload_n (nx := 46) dX7_brought_45 rfl rfl rfl ?_
        refine X_bipush (v := -2) (nx := 48) dX7_brought_46 rfl rfl ?_
        refine Y_Vi1 (nx := 51) dX7_brought_48 rfl ml_RX7_51 kj_X7_refuse kv_X7_refuse (sp_X7_refuse (k := 2) rfl (by omega) (by omega)) (by first | assumption | rfl | decide | omega) (by first | assumption | rfl | decide | omega) (by decide) rfl (by first | decide | omega) (by exact Nat.le_of_ble_eq_true rfl) ?_
        exact Z_reti dX7_brought_51 (Or.inl rfl) (by unfold m_brought; rw [if_pos c8, k8, if_neg m28, if_neg n42]; exact ck_no (k := 2) h Fr.rf (by omega) (by omega))
    · skip
      have c28 := b2i_t.mp h28
      rw [r4] at c28
      have m28 : mtB (bk S) r = true := c28
      refine X_aload_n (nx := 32) dX7_brought_31 rfl rfl rfl ?_
      refine X_bipush (v := -3) (nx := 34) dX7_brought_32 rfl rfl ?_
      refine Y_Vi1 (nx := 37) dX7_brought_34 rfl ml_RX7_51 kj_X7_refuse kv_X7_refuse (sp_X7_refuse (k := 3) rfl (by omega) (by omega)) (by first | assumption | rfl | decide | omega) (by first | assumption | rfl | decide | omega) (by decide) rfl (by first | decide | omega) (by exact Nat.le_of_ble_eq_true rfl) ?_
      exact Z_reti dX7_brought_37 (Or.inl rfl) (by unfold m_brought; rw [if_pos c8, k8, if_pos m28]; exact ck_no (k := 3) h Fr.rf (by omega) (by omega))
  · skip
    have n8 := nb h8
    refine X_aload_n (nx := 12) dX7_brought_11 rfl rfl rfl ?_
    refine X_iconst (v := -1) (nx := 13) dX7_brought_12 rfl rfl ?_
    refine Y_Vi1 (nx := 16) dX7_brought_13 rfl ml_RX7_51 kj_X7_refuse kv_X7_refuse (sp_X7_refuse (k := 1) rfl (by omega) (by omega)) (by first | assumption | rfl | decide | omega) (by first | assumption | rfl | decide | omega) (by decide) rfl (by first | decide | omega) (by exact Nat.le_of_ble_eq_true rfl) ?_
    exact Z_reti dX7_brought_16 (Or.inl rfl) (by unfold m_brought; rw [if_neg n8]; exact ck_no (k := 1) h Fr.rf (by omega) (by omega))
