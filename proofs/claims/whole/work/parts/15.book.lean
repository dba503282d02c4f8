/-! PATHS by number; BOOKS -/
theorem up2_up2 {D : Mem} {a i : Nat} {v w : Int32} : up2 (up2 D a i v) a i w = up2 D a i w := by
  funext b k
  unfold up2
  split <;> rfl
def fos (n : Nat) : Nat := [0, 1, 5, 21, 85].getD n 0
theorem fosI : ∀ n, n < 5 → ([0, 1, 5, 21, 85] : List Int32).getD n 0 = nI (fos n) := by decide
/-- how many letters path n has, by its first i sizes -/
def szf (n : Nat) : Nat → Nat
  | 0 => 0
  | i + 1 => if 1 ≤ i ∧ fos i ≤ n then i else szf n i
theorem szf_le (n : Nat) : ∀ i, szf n i ≤ i - 1 := by
  intro i
  induction i with
  | zero => exact Nat.le_refl _
  | succ i ih => unfold szf; split <;> omega
def sz (n : Nat) : Nat := szf n 5
theorem sz_le (n : Nat) : sz n ≤ 4 := szf_le n 5
/-- the i-th letter of path n -/
def ltr (n i : Nat) : Nat := (n - fos (sz n)) / 4 ^ (sz n - 1 - i) % 4
def pathL (n : Nat) : List Nat := (List.range (sz n)).map (ltr n)
theorem pathL_len (n : Nat) : (pathL n).length = sz n := by simp [pathL]
theorem pathL_get {n k : Nat} (h : k < sz n) : (pathL n).getD k 0 = ltr n k := by
  rw [List.getD_eq_getElem?_getD, pathL, List.getElem?_map, List.getElem?_range h]; rfl
theorem pathL_lt {n x : Nat} (h : x ∈ pathL n) : x < 4 := by
  obtain ⟨k, -, rfl⟩ := List.mem_map.mp h
  exact Nat.mod_lt _ (by omega)
theorem fos_sz : ∀ n, n < 341 → fos (sz n) ≤ n ∧ n - fos (sz n) < 4 ^ sz n := by decide +kernel
/-- the code of the first i letters -/
def pcd (L : List Nat) : Nat → Nat
  | 0 => 0
  | i + 1 => pcd L i * 4 + L.getD i 0
def pnum (L : List Nat) : Nat := fos L.length + pcd L L.length
theorem dX1_numberOf_0 : decode cX1_numberOf 0 = .ok (.iconst 0, 1) := by decide +kernel
theorem dX1_numberOf_1 : decode cX1_numberOf 1 = .ok (.istore_n 1, 1) := by decide +kernel
theorem dX1_numberOf_2 : decode cX1_numberOf 2 = .ok (.iconst 0, 1) := by decide +kernel
theorem dX1_numberOf_3 : decode cX1_numberOf 3 = .ok (.istore_n 2, 1) := by decide +kernel
theorem dX1_numberOf_4 : decode cX1_numberOf 4 = .ok (.iload_n 2, 1) := by decide +kernel
theorem dX1_numberOf_5 : decode cX1_numberOf 5 = .ok (.aload_n 0, 1) := by decide +kernel
theorem dX1_numberOf_6 : decode cX1_numberOf 6 = .ok (.getfield 19, 3) := by decide +kernel
theorem dX1_numberOf_9 : decode cX1_numberOf 9 = .ok (.if_icmp .ge 19, 3) := by decide +kernel
theorem dX1_numberOf_12 : decode cX1_numberOf 12 = .ok (.iload_n 1, 1) := by decide +kernel
theorem dX1_numberOf_13 : decode cX1_numberOf 13 = .ok (.iconst 4, 1) := by decide +kernel
theorem dX1_numberOf_14 : decode cX1_numberOf 14 = .ok (.imul, 1) := by decide +kernel
theorem dX1_numberOf_15 : decode cX1_numberOf 15 = .ok (.aload_n 0, 1) := by decide +kernel
theorem dX1_numberOf_16 : decode cX1_numberOf 16 = .ok (.iload_n 2, 1) := by decide +kernel
theorem dX1_numberOf_17 : decode cX1_numberOf 17 = .ok (.invokevirtual 29, 3) := by decide +kernel
theorem dX1_numberOf_20 : decode cX1_numberOf 20 = .ok (.iadd, 1) := by decide +kernel
theorem dX1_numberOf_21 : decode cX1_numberOf 21 = .ok (.istore_n 1, 1) := by decide +kernel
theorem dX1_numberOf_22 : decode cX1_numberOf 22 = .ok (.iinc 2 1, 3) := by decide +kernel
theorem dX1_numberOf_25 : decode cX1_numberOf 25 = .ok (.goto (-21), 3) := by decide +kernel
theorem dX1_numberOf_28 : decode cX1_numberOf 28 = .ok (.getstatic 7, 3) := by decide +kernel
theorem dX1_numberOf_31 : decode cX1_numberOf 31 = .ok (.aload_n 0, 1) := by decide +kernel
theorem dX1_numberOf_32 : decode cX1_numberOf 32 = .ok (.getfield 19, 3) := by decide +kernel
theorem dX1_numberOf_35 : decode cX1_numberOf 35 = .ok (.invokestatic 13, 3) := by decide +kernel
theorem dX1_numberOf_38 : decode cX1_numberOf 38 = .ok (.iload_n 1, 1) := by decide +kernel
theorem dX1_numberOf_39 : decode cX1_numberOf 39 = .ok (.iadd, 1) := by decide +kernel
theorem dX1_numberOf_40 : decode cX1_numberOf 40 = .ok (.ireturn, 1) := by decide +kernel
theorem lp_X1_number {p : Nat} {L : List Nat} {D : Mem} (hp : isPa p) (h : LET D p L) : ∀ (m : Nat) (i : Nat), i + m = L.length → X 2 138 j_X1_numberOf 4 [some (.ref p), some (.int (nI (pcd L i))), some (.int (nI i))] [] (138, P0, D) (fun x σ => x = [.int (nI (pnum L))] ∧ σ = wd D) := by
  intro m
  induction m with
  | zero =>
    intro i hi
    obtain ⟨q1, q2, q3, q4, q5, q6⟩ := hp.facts
    have hb := h.1
    refine X_iload_n (nx := 5) dX1_numberOf_4 rfl rfl rfl ?_
    refine X_aload_n (nx := 6) dX1_numberOf_5 rfl rfl rfl ?_
    refine M_getI (nx := 9) dX1_numberOf_6 rfl fl_RX1_19 rfl (by first | assumption | rfl | decide | omega) (by first | assumption | rfl | decide | omega) ?_
    refine X_top (h.2.1) ?_
    refine X_icmp_ge (tgt := 28) (nx := 12) dX1_numberOf_9 rfl rfl (fun h9 => ?_) (fun h9 => ?_)
    · skip
      refine X_gs_fos (nx := 31) dX1_numberOf_28 rfl gs_RX1_7 ?_
      refine X_aload_n (nx := 32) dX1_numberOf_31 rfl rfl rfl ?_
      refine M_getI (nx := 35) dX1_numberOf_32 rfl fl_RX1_19 rfl (by first | assumption | rfl | decide | omega) (by first | assumption | rfl | decide | omega) ?_
      refine X_top (h.2.1) ?_
      refine Y_Si2 (nx := 38) dX1_numberOf_35 rfl ml_RX1_13 kj_X7_numberAt ks_X7_numberAt (sp_X7_numberAtF rfl (by omega)) (by first | decide | omega) (by exact Nat.le_of_ble_eq_true rfl) ?_
      refine X_top (fosI _ (by omega)) ?_
      refine X_iload_n (nx := 39) dX1_numberOf_38 rfl rfl rfl ?_
      refine X_iadd (nx := 40) dX1_numberOf_39 rfl ?_
      refine X_top (nI_add _ _) ?_
      exact Y_reti dX1_numberOf_40 (Or.inl rfl) (by rw [show i = L.length by omega]; rfl) rfl
    · exact absurd h9 (fun q => q (nI_le (by omega) (by omega)))
  | succ m ih =>
    intro i hi
    obtain ⟨q1, q2, q3, q4, q5, q6⟩ := hp.facts
    have hb := h.1
    refine X_iload_n (nx := 5) dX1_numberOf_4 rfl rfl rfl ?_
    refine X_aload_n (nx := 6) dX1_numberOf_5 rfl rfl rfl ?_
    refine M_getI (nx := 9) dX1_numberOf_6 rfl fl_RX1_19 rfl (by first | assumption | rfl | decide | omega) (by first | assumption | rfl | decide | omega) ?_
    refine X_top (h.2.1) ?_
    refine X_icmp_ge (tgt := 28) (nx := 12) dX1_numberOf_9 rfl rfl (fun h9 => ?_) (fun h9 => ?_)
    · exact absurd h9 (nI_ge (by omega) (by omega))
    · skip
      refine X_iload_n (nx := 13) dX1_numberOf_12 rfl rfl rfl ?_
      refine X_iconst (v := nI 4) (nx := 14) dX1_numberOf_13 rfl rfl ?_
      refine X_imul (nx := 15) dX1_numberOf_14 rfl ?_
      refine X_top (pk_mul (pcd L i) 4) ?_
      refine X_aload_n (nx := 16) dX1_numberOf_15 rfl rfl rfl ?_
      refine X_iload_n (nx := 17) dX1_numberOf_16 rfl rfl rfl ?_
      refine Y_Vi1 (nx := 20) dX1_numberOf_17 rfl ml_RX1_29 kj_X2_at kv_X2_at (sp_X2_at hp.pl (h.pil hp) rfl (by omega)) (by first | assumption | rfl | decide | omega) (by first | assumption | rfl | decide | omega) (by decide) rfl (by first | decide | omega) (by exact Nat.le_of_ble_eq_true rfl) ?_
      refine X_iadd (nx := 21) dX1_numberOf_20 rfl ?_
      refine X_top (nI_add _ _) ?_
      refine X_istore_n (i := 1) (nx := 22) dX1_numberOf_21 rfl rfl (by decide) rfl (st_s (st_0)) ?_
      refine X_iinc (nx := 25) dX1_numberOf_22 rfl (by decide) rfl (by first | exact ii1 _ | rfl) rfl (st_s (st_s (st_0))) ?_
      refine X_goto (tgt := 4) dX1_numberOf_25 rfl ?_
      exact ih (i + 1) (by omega)
theorem sp_X1_numberOf {p : Nat} {L : List Nat} {D : Mem} (hp : isPa p) (h : LET D p L) : Ei 2 j_X1_numberOf [.ref p] D (nI (pnum L)) (D) := by
  refine E.start 2 (ls := [some (.ref p), none, none]) (by decide +kernel) (Nat.le_of_ble_eq_true rfl) rfl (Nat.le_refl _) (Nat.le_refl _) ?_
  refine X_iconst (v := 0) (nx := 1) dX1_numberOf_0 rfl rfl ?_
  refine X_istore_n (i := 1) (nx := 2) dX1_numberOf_1 rfl rfl (by decide) rfl (st_s (st_0)) ?_
  refine X_iconst (v := 0) (nx := 3) dX1_numberOf_2 rfl rfl ?_
  refine X_istore_n (i := 2) (nx := 4) dX1_numberOf_3 rfl rfl (by decide) rfl (st_s (st_s (st_0))) ?_
  exact lp_X1_number hp h L.length 0 (by omega)
theorem sub_nI {a b : Nat} (h : b ≤ a) : nI a - nI b = nI (a - b) := pk_sub h
theorem and3 {n : Nat} (h : n < 4294967296) : nI n &&& 3 = nI (n % 4) := pk_andN h 2 rfl
theorem shr2 {n : Nat} (h : n < 2147483648) : nI n >>> ((2 : Int32) &&& 31) = nI (n / 4) := pk_shrN h _ 2 (by decide)
theorem shr_m : ∀ m, m < 4 → ((nI (2 * m) &&& 31 : Int32).toBitVec.smod 32).toNat = 2 * m := by decide
theorem shr2m {n m : Nat} (h : n < 2147483648) (hm : m < 4) : nI n >>> (nI (2 * m) &&& 31) = nI (n / 4 ^ m) := by
  rw [pk_shrN h _ (2 * m) (shr_m m hm), Nat.pow_mul]
theorem dec1 (x : Int32) : x + Int32.ofInt (-1) = x - 1 := by rw [Int32.sub_eq_add_neg, show Int32.ofInt (-1) = -1 from by decide]
theorem m1_lt : nI 0 - 1 < 0 := by decide
theorem sub1 (m : Nat) : nI (m + 1) - 1 = nI m := nI_pred m
theorem fos_le : ∀ i, i < 5 → fos i ≤ 85 := by decide
/-- the first k letters of path n -/
def plt (n k : Nat) : List Nat := (List.range k).map (ltr n)
theorem plt_len (n k : Nat) : (plt n k).length = k := by simp [plt]
theorem plt_s (n k : Nat) : plt n (k + 1) = plt n k ++ [ltr n k] := by simp [plt, List.range_succ]
theorem ltr_lt (n k : Nat) : ltr n k < 4 := Nat.mod_lt _ (by omega)
theorem LET.add {D : Mem} {p : Nat} {l : List Nat} {k : Nat} (h : LET D p l) (hl : l.length < 4) (hk : k < 4) : LET (up2 (up2 D (p + 1) l.length (nI k)) p 1 (nI (l.length + 1))) p (l ++ [k]) := by
  obtain ⟨h1, h2, h3, h4⟩ := h
  refine ⟨by simp; omega, by rw [up2_same]; simp, fun i hi => ?_, fun x hx => ?_⟩
  · simp at hi
    rw [up2_other (by omega)]
    by_cases e : i = l.length
    · subst e
      rw [up2_same, List.getD_eq_getElem?_getD, List.getElem?_append_right (Nat.le_refl _)]; simp
    · rw [up2_other (by omega), h3 i (by omega), List.getD_eq_getElem?_getD, List.getD_eq_getElem?_getD, List.getElem?_append_left (by omega)]
  · rcases List.mem_append.mp hx with hx | hx
    · exact h4 x hx
    · rw [List.mem_singleton.mp hx]; exact hk
theorem LET.nil {D : Mem} {p : Nat} : LET (up2 D p 1 0) p [] := ⟨Nat.zero_le _, up2_same, fun k hk => absurd hk (Nat.not_lt_zero _), fun x hx => absurd hx List.not_mem_nil⟩
theorem dX1_read_0 : decode cX1_read 0 = .ok (.iconst 0, 1) := by decide +kernel
theorem dX1_read_1 : decode cX1_read 1 = .ok (.istore_n 2, 1) := by decide +kernel
theorem dX1_read_2 : decode cX1_read 2 = .ok (.iconst 1, 1) := by decide +kernel
theorem dX1_read_3 : decode cX1_read 3 = .ok (.istore_n 3, 1) := by decide +kernel
theorem dX1_read_4 : decode cX1_read 4 = .ok (.iload_n 3, 1) := by decide +kernel
theorem dX1_read_5 : decode cX1_read 5 = .ok (.getstatic 7, 3) := by decide +kernel
theorem dX1_read_8 : decode cX1_read 8 = .ok (.arraylength, 1) := by decide +kernel
theorem dX1_read_9 : decode cX1_read 9 = .ok (.if_icmp .ge 20, 3) := by decide +kernel
theorem dX1_read_12 : decode cX1_read 12 = .ok (.iload_n 0, 1) := by decide +kernel
theorem dX1_read_13 : decode cX1_read 13 = .ok (.getstatic 7, 3) := by decide +kernel
theorem dX1_read_16 : decode cX1_read 16 = .ok (.iload_n 3, 1) := by decide +kernel
theorem dX1_read_17 : decode cX1_read 17 = .ok (.iaload, 1) := by decide +kernel
theorem dX1_read_18 : decode cX1_read 18 = .ok (.if_icmp .lt 5, 3) := by decide +kernel
theorem dX1_read_21 : decode cX1_read 21 = .ok (.iload_n 3, 1) := by decide +kernel
theorem dX1_read_22 : decode cX1_read 22 = .ok (.istore_n 2, 1) := by decide +kernel
theorem dX1_read_23 : decode cX1_read 23 = .ok (.iinc 3 1, 3) := by decide +kernel
theorem dX1_read_26 : decode cX1_read 26 = .ok (.goto (-22), 3) := by decide +kernel
theorem dX1_read_29 : decode cX1_read 29 = .ok (.iload_n 0, 1) := by decide +kernel
theorem dX1_read_30 : decode cX1_read 30 = .ok (.getstatic 7, 3) := by decide +kernel
theorem dX1_read_33 : decode cX1_read 33 = .ok (.iload_n 2, 1) := by decide +kernel
theorem dX1_read_34 : decode cX1_read 34 = .ok (.invokestatic 13, 3) := by decide +kernel
theorem dX1_read_37 : decode cX1_read 37 = .ok (.isub, 1) := by decide +kernel
theorem dX1_read_38 : decode cX1_read 38 = .ok (.istore_n 3, 1) := by decide +kernel
theorem dX1_read_39 : decode cX1_read 39 = .ok (.aload_n 1, 1) := by decide +kernel
theorem dX1_read_40 : decode cX1_read 40 = .ok (.iconst 0, 1) := by decide +kernel
theorem dX1_read_41 : decode cX1_read 41 = .ok (.putfield 19, 3) := by decide +kernel
theorem dX1_read_44 : decode cX1_read 44 = .ok (.iload_n 2, 1) := by decide +kernel
theorem dX1_read_45 : decode cX1_read 45 = .ok (.iconst 1, 1) := by decide +kernel
theorem dX1_read_46 : decode cX1_read 46 = .ok (.isub, 1) := by decide +kernel
theorem dX1_read_47 : decode cX1_read 47 = .ok (.istore 4, 2) := by decide +kernel
theorem dX1_read_49 : decode cX1_read 49 = .ok (.iload 4, 2) := by decide +kernel
theorem dX1_read_51 : decode cX1_read 51 = .ok (.ifCond .lt 21, 3) := by decide +kernel
theorem dX1_read_54 : decode cX1_read 54 = .ok (.aload_n 1, 1) := by decide +kernel
theorem dX1_read_55 : decode cX1_read 55 = .ok (.iload_n 3, 1) := by decide +kernel
theorem dX1_read_56 : decode cX1_read 56 = .ok (.iconst 2, 1) := by decide +kernel
theorem dX1_read_57 : decode cX1_read 57 = .ok (.iload 4, 2) := by decide +kernel
theorem dX1_read_59 : decode cX1_read 59 = .ok (.imul, 1) := by decide +kernel
theorem dX1_read_60 : decode cX1_read 60 = .ok (.ishr, 1) := by decide +kernel
theorem dX1_read_61 : decode cX1_read 61 = .ok (.iconst 3, 1) := by decide +kernel
theorem dX1_read_62 : decode cX1_read 62 = .ok (.iand, 1) := by decide +kernel
theorem dX1_read_63 : decode cX1_read 63 = .ok (.invokevirtual 25, 3) := by decide +kernel
theorem dX1_read_66 : decode cX1_read 66 = .ok (.iinc 4 (-1), 3) := by decide +kernel
theorem dX1_read_69 : decode cX1_read 69 = .ok (.goto (-20), 3) := by decide +kernel
theorem dX1_read_72 : decode cX1_read 72 = .ok (.return_, 1) := by decide +kernel
theorem lp_X1_read2 {p n : Nat} {D : Mem} (hp : isPa p) (hn : n < 341) : ∀ (m : Nat) (D1 : Mem), m ≤ sz n → LET D1 p (plt n (sz n - m)) → Fr (fun b => b = p ∨ b = p + 1) D D1 → X 3 138 j_X1_read 49 [some (.int (nI n)), some (.ref p), some (.int (nI (sz n))), some (.int (nI (n - fos (sz n)))), some (.int (nI m - 1))] [] (138, P0, D1) (fun x σ => ∃ D' : Mem, x = [] ∧ σ = wd D' ∧ LET D' p (pathL n) ∧ Fr (fun b => b = p ∨ b = p + 1) D D') := by
  intro m
  induction m with
  | zero =>
    intro D1 hm hl hf
    obtain ⟨q1, q2, q3, q4, q5, q6⟩ := hp.facts
    refine X_iload (nx := 51) dX1_read_49 rfl rfl ?_
    refine X_if_lt (tgt := 72) (nx := 54) dX1_read_51 rfl rfl (fun h51 => ?_) (fun h51 => ?_)
    · skip
      exact Z_retv dX1_read_72 rfl ⟨hl, hf⟩
    · exact absurd h51 (fun q => q m1_lt)
  | succ m ih =>
    intro D1 hm hl hf
    obtain ⟨q1, q2, q3, q4, q5, q6⟩ := hp.facts
    have hz := sz_le n
    have hq : (n - fos (sz n)) / 4 ^ m ≤ n - fos (sz n) := Nat.div_le_self _ _
    refine X_iload (nx := 51) dX1_read_49 rfl rfl ?_
    refine X_if_lt (tgt := 72) (nx := 54) dX1_read_51 rfl rfl (fun h51 => ?_) (fun h51 => ?_)
    · exact absurd h51 (by rw [sub1]; exact nI_neg (by omega))
    · skip
      refine X_aload_n (nx := 55) dX1_read_54 rfl rfl rfl ?_
      refine X_iload_n (nx := 56) dX1_read_55 rfl rfl rfl ?_
      refine X_iconst (v := nI 2) (nx := 57) dX1_read_56 rfl rfl ?_
      refine X_iload (nx := 59) dX1_read_57 rfl rfl ?_
      refine X_top (sub1 m) ?_
      refine X_imul (nx := 60) dX1_read_59 rfl ?_
      refine X_top (pk_mul 2 m) ?_
      refine X_ishr (nx := 61) dX1_read_60 rfl ?_
      refine X_top (shr2m (by omega) (by omega)) ?_
      refine X_iconst (v := 3) (nx := 62) dX1_read_61 rfl rfl ?_
      refine X_iand (nx := 63) dX1_read_62 rfl ?_
      refine X_top (and3 (by omega)) ?_
      refine Y_Vv1 (nx := 66) dX1_read_63 rfl ml_RX1_25 kj_X2_add kv_X2_add (sp_X2_add hp.pl (hl.pil hp) (by rw [q6, plt_len]; omega)) (by first | assumption | rfl | decide | omega) (by first | assumption | rfl | decide | omega) (by decide) rfl (by first | decide | omega) (by exact Nat.le_of_ble_eq_true rfl) ?_
      refine X_iinc (nx := 69) dX1_read_66 rfl (by decide) rfl (show nI (m + 1) - 1 + Int32.ofInt (-1) = nI m - 1 by rw [sub1, dec1]) rfl (st_s (st_s (st_s (st_s (st_0))))) ?_
      refine X_goto (tgt := 49) dX1_read_69 rfl ?_
      have hv : ltr n (sz n - (m + 1)) = (n - fos (sz n)) / 4 ^ m % 4 := by unfold ltr; rw [show sz n - 1 - (sz n - (m + 1)) = m by omega]
      have e := hl.add (k := ltr n (sz n - (m + 1))) (by rw [plt_len]; omega) (ltr_lt _ _)
      rw [← plt_s, hv, show sz n - (m + 1) + 1 = sz n - m by omega] at e
      exact ih _ (by omega) e (hf.tr ((Fr.up (Or.inr rfl)).tr (Fr.up (Or.inl rfl))))
theorem lp_X1_read1 {p n : Nat} {D : Mem} (hp : isPa p) (hn : n < 341) : ∀ (m : Nat) (i : Nat), i + m = 5 → 1 ≤ i → X 3 138 j_X1_read 4 [some (.int (nI n)), some (.ref p), some (.int (nI (szf n i))), some (.int (nI i)), none] [] (138, P0, D) (fun x σ => ∃ D' : Mem, x = [] ∧ σ = wd D' ∧ LET D' p (pathL n) ∧ Fr (fun b => b = p ∨ b = p + 1) D D') := by
  intro m
  induction m with
  | zero =>
    intro i hi h1
    obtain ⟨q1, q2, q3, q4, q5, q6⟩ := hp.facts
    have hz := sz_le n
    have hi5 : i = 5 := by omega
    subst hi5
    show X 3 138 j_X1_read 4 [some (.int (nI n)), some (.ref p), some (.int (nI (sz n))), some (.int (nI 5)), none] [] (138, P0, D) _
    refine X_iload_n (nx := 5) dX1_read_4 rfl rfl rfl ?_
    refine X_gs_fos (nx := 8) dX1_read_5 rfl gs_RX1_7 ?_
    refine X_slen (nx := 9) dX1_read_8 rfl (n := 5) (fun _ _ => rfl) ?_
    refine X_icmp_ge (tgt := 29) (nx := 12) dX1_read_9 rfl rfl (fun h9 => ?_) (fun h9 => ?_)
    · skip
      refine X_iload_n (nx := 30) dX1_read_29 rfl rfl rfl ?_
      refine X_gs_fos (nx := 33) dX1_read_30 rfl gs_RX1_7 ?_
      refine X_iload_n (nx := 34) dX1_read_33 rfl rfl rfl ?_
      refine Y_Si2 (nx := 37) dX1_read_34 rfl ml_RX1_13 kj_X7_numberAt ks_X7_numberAt (sp_X7_numberAtF rfl (by omega)) (by first | decide | omega) (by exact Nat.le_of_ble_eq_true rfl) ?_
      refine X_top (fosI _ (by omega)) ?_
      refine X_isub (nx := 38) dX1_read_37 rfl ?_
      refine X_top (sub_nI (fos_sz n hn).1) ?_
      refine X_istore_n (i := 3) (nx := 39) dX1_read_38 rfl rfl (by decide) rfl (st_s (st_s (st_s (st_0)))) ?_
      refine X_aload_n (nx := 40) dX1_read_39 rfl rfl rfl ?_
      refine X_iconst (v := 0) (nx := 41) dX1_read_40 rfl rfl ?_
      refine M_putI (nx := 44) dX1_read_41 rfl fl_RX1_19 rfl rfl (by first | assumption | rfl | decide | omega) (by first | assumption | rfl | decide | omega) ?_
      refine X_iload_n (nx := 45) dX1_read_44 rfl rfl rfl ?_
      refine X_iconst (v := 1) (nx := 46) dX1_read_45 rfl rfl ?_
      refine X_isub (nx := 47) dX1_read_46 rfl ?_
      refine X_istore (i := 4) (nx := 49) dX1_read_47 rfl (by decide) rfl (st_s (st_s (st_s (st_s (st_0))))) ?_
      exact lp_X1_read2 hp hn (sz n) _ (Nat.le_refl _) (by rw [Nat.sub_self]; exact LET.nil) (Fr.up (Or.inl rfl))
    · exact absurd h9 (fun q => q (nI_le (by omega) (by omega)))
  | succ m ih =>
    intro i hi h1
    obtain ⟨q1, q2, q3, q4, q5, q6⟩ := hp.facts
    refine X_iload_n (nx := 5) dX1_read_4 rfl rfl rfl ?_
    refine X_gs_fos (nx := 8) dX1_read_5 rfl gs_RX1_7 ?_
    refine X_slen (nx := 9) dX1_read_8 rfl (n := 5) (fun _ _ => rfl) ?_
    refine X_icmp_ge (tgt := 29) (nx := 12) dX1_read_9 rfl rfl (fun h9 => ?_) (fun h9 => ?_)
    · exact absurd h9 (nI_ge (by omega) (by omega))
    · skip
      refine X_iload_n (nx := 13) dX1_read_12 rfl rfl rfl ?_
      refine X_gs_fos (nx := 16) dX1_read_13 rfl gs_RX1_7 ?_
      refine X_iload_n (nx := 17) dX1_read_16 rfl rfl rfl ?_
      refine X_sld (nx := 18) dX1_read_17 rfl (n := 5) (fun _ _ => rfl) (vp_in_nI (by omega) (by omega)) ?_
      refine X_top ((congrArg (fun k => ([0, 1, 5, 21, 85] : List Int32).getD k 0) (nI_clamp (by omega))).trans (fosI i (by omega))) ?_
      refine X_icmp_lt (tgt := 23) (nx := 21) dX1_read_18 rfl rfl (fun h18 => ?_) (fun h18 => ?_)
      · skip
        rw [nI_ltI (by omega) (by have := fos_le i (by omega); omega)] at h18
        refine X_iinc (nx := 26) dX1_read_23 rfl (by decide) rfl (by first | exact ii1 _ | rfl) rfl (st_s (st_s (st_s (st_0)))) ?_
        refine X_goto (tgt := 4) dX1_read_26 rfl ?_
        first
          | (have e1 : szf n (i + 1) = i := if_pos ⟨h1, by omega⟩
             have e2 := ih (i + 1) (by omega) (by omega)
             rw [e1] at e2
             exact e2)
          | (have e1 : szf n (i + 1) = szf n i := if_neg (by omega)
             have e2 := ih (i + 1) (by omega) (by omega)
             rw [e1] at e2
             exact e2)
      · skip
        rw [nI_ltI (by omega) (by have := fos_le i (by omega); omega)] at h18
        refine X_iload_n (nx := 22) dX1_read_21 rfl rfl rfl ?_
        refine X_istore_n (i := 2) (nx := 23) dX1_read_22 rfl rfl (by decide) rfl (st_s (st_s (st_0))) ?_
        refine X_iinc (nx := 26) dX1_read_23 rfl (by decide) rfl (by first | exact ii1 _ | rfl) rfl (st_s (st_s (st_s (st_0)))) ?_
        refine X_goto (tgt := 4) dX1_read_26 rfl ?_
        first
          | (have e1 : szf n (i + 1) = i := if_pos ⟨h1, by omega⟩
             have e2 := ih (i + 1) (by omega) (by omega)
             rw [e1] at e2
             exact e2)
          | (have e1 : szf n (i + 1) = szf n i := if_neg (by omega)
             have e2 := ih (i + 1) (by omega) (by omega)
             rw [e1] at e2
             exact e2)
theorem sp_X1_read {p n : Nat} {x : Int32} {D : Mem} (hp : isPa p) (hx : x = nI n) (hn : n < 341) : Rvx 3 j_X1_read [.int x, .ref p] D (fun D' => LET D' p (pathL n) ∧ Fr (fun b => b = p ∨ b = p + 1) D D') := by
  refine E.start 3 (ls := [some (.int x), some (.ref p), none, none, none]) (by decide +kernel) (Nat.le_of_ble_eq_true rfl) rfl (Nat.le_refl _) (Nat.le_refl _) ?_
  subst hx
  obtain ⟨q1, q2, q3, q4, q5, q6⟩ := hp.facts
  refine X_iconst (v := 0) (nx := 1) dX1_read_0 rfl rfl ?_
  refine X_istore_n (i := 2) (nx := 2) dX1_read_1 rfl rfl (by decide) rfl (st_s (st_s (st_0))) ?_
  refine X_iconst (v := nI 1) (nx := 3) dX1_read_2 rfl rfl ?_
  refine X_istore_n (i := 3) (nx := 4) dX1_read_3 rfl rfl (by decide) rfl (st_s (st_s (st_s (st_0)))) ?_
  exact lp_X1_read1 hp hn 4 1 rfl (Nat.le_refl _)
