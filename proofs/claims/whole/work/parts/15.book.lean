/-! PATHS by number; BOOKS -/
theorem up2_up2 {D : Mem} {a i : Nat} {v w : Int32} : up2 (up2 D a i v) a i w = up2 D a i w := by
  funext b k
  unfold up2
  split <;> rfl
def fos (n : Nat) : Nat := [0, 1, 5, 21, 85].getD n 0
theorem fosI : ∀ n, n < 5 → ([0, 1, 5, 21, 85] : List Int32).getD n 0 = nI (fos n) := by decide
/-- how many letters path n has, by its first i sizes -/
def szf (n : Nat) : Nat → Nat
  | 0 => 0
  | i + 1 => if 1 ≤ i ∧ fos i ≤ n then i else szf n i
theorem szf_le (n : Nat) : ∀ i, szf n i ≤ i - 1 := by
  intro i
  induction i with
  | zero => exact Nat.le_refl _
  | succ i ih => unfold szf; split <;> omega
def sz (n : Nat) : Nat := szf n 5
theorem sz_le (n : Nat) : sz n ≤ 4 := szf_le n 5
/-- the i-th letter of path n -/
def ltr (n i : Nat) : Nat := (n - fos (sz n)) / 4 ^ (sz n - 1 - i) % 4
def pathL (n : Nat) : List Nat := (List.range (sz n)).map (ltr n)
theorem pathL_len (n : Nat) : (pathL n).length = sz n := by simp [pathL]
theorem pathL_get {n k : Nat} (h : k < sz n) : (pathL n).getD k 0 = ltr n k := by
  rw [List.getD_eq_getElem?_getD, pathL, List.getElem?_map, List.getElem?_range h]; rfl
theorem pathL_lt {n x : Nat} (h : x ∈ pathL n) : x < 4 := by
  obtain ⟨k, -, rfl⟩ := List.mem_map.mp h
  exact Nat.mod_lt _ (by omega)
theorem fos_sz : ∀ n, n < 341 → fos (sz n) ≤ n ∧ n - fos (sz n) < 4 ^ sz n := by decide +kernel
/-- the code of the first i letters -/
def pcd (L : List Nat) : Nat → Nat
  | 0 => 0
  | i + 1 => pcd L i * 4 + L.getD i 0
def pnum (L : List Nat) : Nat := fos L.length + pcd L L.length
theorem dX1_number_0 : decode cX1_number 0 = .ok (.iconst 0, 1) := by decide +kernel
theorem dX1_number_1 : decode cX1_number 1 = .ok (.istore_n 1, 1) := by decide +kernel
theorem dX1_number_2 : decode cX1_number 2 = .ok (.iconst 0, 1) := by decide +kernel
theorem dX1_number_3 : decode cX1_number 3 = .ok (.istore_n 2, 1) := by decide +kernel
theorem dX1_number_4 : decode cX1_number 4 = .ok (.iload_n 2, 1) := by decide +kernel
theorem dX1_number_5 : decode cX1_number 5 = .ok (.aload_n 0, 1) := by decide +kernel
theorem dX1_number_6 : decode cX1_number 6 = .ok (.getfield 15, 3) := by decide +kernel
theorem dX1_number_9 : decode cX1_number 9 = .ok (.if_icmp .ge 22, 3) := by decide +kernel
theorem dX1_number_12 : decode cX1_number 12 = .ok (.iload_n 1, 1) := by decide +kernel
theorem dX1_number_13 : decode cX1_number 13 = .ok (.iconst 4, 1) := by decide +kernel
theorem dX1_number_14 : decode cX1_number 14 = .ok (.imul, 1) := by decide +kernel
theorem dX1_number_15 : decode cX1_number 15 = .ok (.aload_n 0, 1) := by decide +kernel
theorem dX1_number_16 : decode cX1_number 16 = .ok (.getfield 9, 3) := by decide +kernel
theorem dX1_number_19 : decode cX1_number 19 = .ok (.iload_n 2, 1) := by decide +kernel
theorem dX1_number_20 : decode cX1_number 20 = .ok (.invokestatic 22, 3) := by decide +kernel
theorem dX1_number_23 : decode cX1_number 23 = .ok (.iadd, 1) := by decide +kernel
theorem dX1_number_24 : decode cX1_number 24 = .ok (.istore_n 1, 1) := by decide +kernel
theorem dX1_number_25 : decode cX1_number 25 = .ok (.iinc 2 1, 3) := by decide +kernel
theorem dX1_number_28 : decode cX1_number 28 = .ok (.goto (-24), 3) := by decide +kernel
theorem dX1_number_31 : decode cX1_number 31 = .ok (.getstatic 19, 3) := by decide +kernel
theorem dX1_number_34 : decode cX1_number 34 = .ok (.aload_n 0, 1) := by decide +kernel
theorem dX1_number_35 : decode cX1_number 35 = .ok (.getfield 15, 3) := by decide +kernel
theorem dX1_number_38 : decode cX1_number 38 = .ok (.invokestatic 22, 3) := by decide +kernel
theorem dX1_number_41 : decode cX1_number 41 = .ok (.iload_n 1, 1) := by decide +kernel
theorem dX1_number_42 : decode cX1_number 42 = .ok (.iadd, 1) := by decide +kernel
theorem dX1_number_43 : decode cX1_number 43 = .ok (.ireturn, 1) := by decide +kernel
theorem lp_X1_number {p : Nat} {L : List Nat} {D : Mem} (hp : isPa p) (h : LET D p L) : ∀ (m : Nat) (i : Nat), i + m = L.length → X 2 138 j_X1_number 4 [some (.ref p), some (.int (nI (pcd L i))), some (.int (nI i))] [] (138, P0, D) (fun x σ => x = [.int (nI (pnum L))] ∧ σ = wd D) := by
  intro m
  induction m with
  | zero =>
    intro i hi
    obtain ⟨q1, q2, q3, q4, q5, q6⟩ := hp.facts
    have hb := h.1
    refine X_iload_n (nx := 5) dX1_number_4 rfl rfl rfl ?_
    refine X_aload_n (nx := 6) dX1_number_5 rfl rfl rfl ?_
    refine M_getI (nx := 9) dX1_number_6 rfl fl_RX1_15 rfl (by first | assumption | rfl | decide | omega) (by first | assumption | rfl | decide | omega) ?_
    refine X_top (h.2.1) ?_
    refine X_icmp_ge (tgt := 31) (nx := 12) dX1_number_9 rfl rfl (fun h9 => ?_) (fun h9 => ?_)
    · skip
      refine X_gs_fos (nx := 34) dX1_number_31 rfl gs_RX1_19 ?_
      refine X_aload_n (nx := 35) dX1_number_34 rfl rfl rfl ?_
      refine M_getI (nx := 38) dX1_number_35 rfl fl_RX1_15 rfl (by first | assumption | rfl | decide | omega) (by first | assumption | rfl | decide | omega) ?_
      refine X_top (h.2.1) ?_
      refine Y_Si2 (nx := 41) dX1_number_38 rfl ml_RX1_22 kj_X7_numberAt ks_X7_numberAt (sp_X7_numberAtF rfl (by omega)) (by first | decide | omega) (by exact Nat.le_of_ble_eq_true rfl) ?_
      refine X_top (fosI _ (by omega)) ?_
      refine X_iload_n (nx := 42) dX1_number_41 rfl rfl rfl ?_
      refine X_iadd (nx := 43) dX1_number_42 rfl ?_
      refine X_top (nI_add _ _) ?_
      exact Y_reti dX1_number_43 (Or.inl rfl) (by rw [show i = L.length by omega]; rfl) rfl
    · exact absurd h9 (fun q => q (nI_le (by omega) (by omega)))
  | succ m ih =>
    intro i hi
    obtain ⟨q1, q2, q3, q4, q5, q6⟩ := hp.facts
    have hb := h.1
    refine X_iload_n (nx := 5) dX1_number_4 rfl rfl rfl ?_
    refine X_aload_n (nx := 6) dX1_number_5 rfl rfl rfl ?_
    refine M_getI (nx := 9) dX1_number_6 rfl fl_RX1_15 rfl (by first | assumption | rfl | decide | omega) (by first | assumption | rfl | decide | omega) ?_
    refine X_top (h.2.1) ?_
    refine X_icmp_ge (tgt := 31) (nx := 12) dX1_number_9 rfl rfl (fun h9 => ?_) (fun h9 => ?_)
    · exact absurd h9 (nI_ge (by omega) (by omega))
    · skip
      refine X_iload_n (nx := 13) dX1_number_12 rfl rfl rfl ?_
      refine X_iconst (v := 4) (nx := 14) dX1_number_13 rfl rfl ?_
      refine X_imul (nx := 15) dX1_number_14 rfl ?_
      refine X_top (pk_mul (pcd L i) 4) ?_
      refine X_aload_n (nx := 16) dX1_number_15 rfl rfl rfl ?_
      refine M_getP (nx := 19) dX1_number_16 rfl fl_RX1_9 rfl (by first | assumption | rfl | decide | omega) (by first | assumption | rfl | decide | omega) (by first | assumption | rfl | decide | omega) ?_
      refine X_iload_n (nx := 20) dX1_number_19 rfl rfl rfl ?_
      refine Y_Si2 (nx := 23) dX1_number_20 rfl ml_RX1_22 kj_X7_numberAt ks_X7_numberAt (sp_X7_numberAt (i := i) (by omega) (by omega) rfl (by omega)) (by first | decide | omega) (by exact Nat.le_of_ble_eq_true rfl) ?_
      refine X_top (h.2.2.1 i (by omega)) ?_
      refine X_iadd (nx := 24) dX1_number_23 rfl ?_
      refine X_top (nI_add _ _) ?_
      refine X_istore_n (i := 1) (nx := 25) dX1_number_24 rfl rfl (by decide) rfl (st_s (st_0)) ?_
      refine X_iinc (nx := 28) dX1_number_25 rfl (by decide) rfl (by first | exact ii1 _ | rfl) rfl (st_s (st_s (st_0))) ?_
      refine X_goto (tgt := 4) dX1_number_28 rfl ?_
      exact ih (i + 1) (by omega)
theorem sp_X1_number {p : Nat} {L : List Nat} {D : Mem} (hp : isPa p) (h : LET D p L) : Ei 2 j_X1_number [.ref p] D (nI (pnum L)) (D) := by
  refine E.start 2 (ls := [some (.ref p), none, none]) (by decide +kernel) (Nat.le_of_ble_eq_true rfl) rfl (Nat.le_refl _) (Nat.le_refl _) ?_
  refine X_iconst (v := 0) (nx := 1) dX1_number_0 rfl rfl ?_
  refine X_istore_n (i := 1) (nx := 2) dX1_number_1 rfl rfl (by decide) rfl (st_s (st_0)) ?_
  refine X_iconst (v := 0) (nx := 3) dX1_number_2 rfl rfl ?_
  refine X_istore_n (i := 2) (nx := 4) dX1_number_3 rfl rfl (by decide) rfl (st_s (st_s (st_0))) ?_
  exact lp_X1_number hp h L.length 0 (by omega)
theorem sub_nI {a b : Nat} (h : b ≤ a) : nI a - nI b = nI (a - b) := pk_sub h
theorem and3 {n : Nat} (h : n < 4294967296) : nI n &&& 3 = nI (n % 4) := pk_andN h 2 rfl
theorem shr2 {n : Nat} (h : n < 2147483648) : nI n >>> ((2 : Int32) &&& 31) = nI (n / 4) := pk_shrN h _ 2 (by decide)
theorem dec1 (x : Int32) : x + Int32.ofInt (-1) = x - 1 := by rw [Int32.sub_eq_add_neg, show Int32.ofInt (-1) = -1 from by decide]
theorem m1_lt : nI 0 - 1 < 0 := by decide
theorem sub1 (m : Nat) : nI (m + 1) - 1 = nI m := nI_pred m
theorem dX1_read_0 : decode cX1_read 0 = .ok (.aload_n 0, 1) := by decide +kernel
theorem dX1_read_1 : decode cX1_read 1 = .ok (.iconst 0, 1) := by decide +kernel
theorem dX1_read_2 : decode cX1_read 2 = .ok (.putfield 15, 3) := by decide +kernel
theorem dX1_read_5 : decode cX1_read 5 = .ok (.iconst 1, 1) := by decide +kernel
theorem dX1_read_6 : decode cX1_read 6 = .ok (.istore_n 2, 1) := by decide +kernel
theorem dX1_read_7 : decode cX1_read 7 = .ok (.iload_n 2, 1) := by decide +kernel
theorem dX1_read_8 : decode cX1_read 8 = .ok (.getstatic 19, 3) := by decide +kernel
theorem dX1_read_11 : decode cX1_read 11 = .ok (.arraylength, 1) := by decide +kernel
theorem dX1_read_12 : decode cX1_read 12 = .ok (.if_icmp .ge 23, 3) := by decide +kernel
theorem dX1_read_15 : decode cX1_read 15 = .ok (.iload_n 1, 1) := by decide +kernel
theorem dX1_read_16 : decode cX1_read 16 = .ok (.getstatic 19, 3) := by decide +kernel
theorem dX1_read_19 : decode cX1_read 19 = .ok (.iload_n 2, 1) := by decide +kernel
theorem dX1_read_20 : decode cX1_read 20 = .ok (.iaload, 1) := by decide +kernel
theorem dX1_read_21 : decode cX1_read 21 = .ok (.if_icmp .lt 8, 3) := by decide +kernel
theorem dX1_read_24 : decode cX1_read 24 = .ok (.aload_n 0, 1) := by decide +kernel
theorem dX1_read_25 : decode cX1_read 25 = .ok (.iload_n 2, 1) := by decide +kernel
theorem dX1_read_26 : decode cX1_read 26 = .ok (.putfield 15, 3) := by decide +kernel
theorem dX1_read_29 : decode cX1_read 29 = .ok (.iinc 2 1, 3) := by decide +kernel
theorem dX1_read_32 : decode cX1_read 32 = .ok (.goto (-25), 3) := by decide +kernel
theorem dX1_read_35 : decode cX1_read 35 = .ok (.iload_n 1, 1) := by decide +kernel
theorem dX1_read_36 : decode cX1_read 36 = .ok (.getstatic 19, 3) := by decide +kernel
theorem dX1_read_39 : decode cX1_read 39 = .ok (.aload_n 0, 1) := by decide +kernel
theorem dX1_read_40 : decode cX1_read 40 = .ok (.getfield 15, 3) := by decide +kernel
theorem dX1_read_43 : decode cX1_read 43 = .ok (.invokestatic 22, 3) := by decide +kernel
theorem dX1_read_46 : decode cX1_read 46 = .ok (.isub, 1) := by decide +kernel
theorem dX1_read_47 : decode cX1_read 47 = .ok (.istore_n 2, 1) := by decide +kernel
theorem dX1_read_48 : decode cX1_read 48 = .ok (.aload_n 0, 1) := by decide +kernel
theorem dX1_read_49 : decode cX1_read 49 = .ok (.getfield 15, 3) := by decide +kernel
theorem dX1_read_52 : decode cX1_read 52 = .ok (.iconst 1, 1) := by decide +kernel
theorem dX1_read_53 : decode cX1_read 53 = .ok (.isub, 1) := by decide +kernel
theorem dX1_read_54 : decode cX1_read 54 = .ok (.istore_n 3, 1) := by decide +kernel
theorem dX1_read_55 : decode cX1_read 55 = .ok (.iload_n 3, 1) := by decide +kernel
theorem dX1_read_56 : decode cX1_read 56 = .ok (.ifCond .lt 24, 3) := by decide +kernel
theorem dX1_read_59 : decode cX1_read 59 = .ok (.aload_n 0, 1) := by decide +kernel
theorem dX1_read_60 : decode cX1_read 60 = .ok (.getfield 9, 3) := by decide +kernel
theorem dX1_read_63 : decode cX1_read 63 = .ok (.iload_n 3, 1) := by decide +kernel
theorem dX1_read_64 : decode cX1_read 64 = .ok (.iload_n 2, 1) := by decide +kernel
theorem dX1_read_65 : decode cX1_read 65 = .ok (.iconst 3, 1) := by decide +kernel
theorem dX1_read_66 : decode cX1_read 66 = .ok (.iand, 1) := by decide +kernel
theorem dX1_read_67 : decode cX1_read 67 = .ok (.invokestatic 26, 3) := by decide +kernel
theorem dX1_read_70 : decode cX1_read 70 = .ok (.iload_n 2, 1) := by decide +kernel
theorem dX1_read_71 : decode cX1_read 71 = .ok (.iconst 2, 1) := by decide +kernel
theorem dX1_read_72 : decode cX1_read 72 = .ok (.ishr, 1) := by decide +kernel
theorem dX1_read_73 : decode cX1_read 73 = .ok (.istore_n 2, 1) := by decide +kernel
theorem dX1_read_74 : decode cX1_read 74 = .ok (.iinc 3 (-1), 3) := by decide +kernel
theorem dX1_read_77 : decode cX1_read 77 = .ok (.goto (-22), 3) := by decide +kernel
theorem dX1_read_80 : decode cX1_read 80 = .ok (.return_, 1) := by decide +kernel
theorem lp_X1_read2 {p n : Nat} {D : Mem} (hp : isPa p) (hn : n < 341) : ∀ (m : Nat) (D1 : Mem), m ≤ sz n → D1 p 1 = nI (sz n) → (∀ k, m ≤ k → k < sz n → D1 (p + 1) k = nI (ltr n k)) → Fr (fun b => b = p ∨ b = p + 1) D D1 → X 2 138 j_X1_read 55 [some (.ref p), some (.int (nI n)), some (.int (nI ((n - fos (sz n)) / 4 ^ (sz n - m)))), some (.int (nI m - 1))] [] (138, P0, D1) (fun x σ => ∃ D' : Mem, x = [] ∧ σ = wd D' ∧ LET D' p (pathL n) ∧ Fr (fun b => b = p ∨ b = p + 1) D D') := by
  intro m
  induction m with
  | zero =>
    intro D1 hm hs hl hf
    obtain ⟨q1, q2, q3, q4, q5, q6⟩ := hp.facts
    refine X_iload_n (nx := 56) dX1_read_55 rfl rfl rfl ?_
    refine X_if_lt (tgt := 80) (nx := 59) dX1_read_56 rfl rfl (fun h56 => ?_) (fun h56 => ?_)
    · skip
      exact Z_retv dX1_read_80 rfl ⟨⟨by rw [pathL_len]; exact sz_le n, by rw [pathL_len]; exact hs, fun k hk => by rw [pathL_len] at hk; rw [pathL_get hk]; exact hl k (by omega) hk, fun x hx => pathL_lt hx⟩, hf⟩
    · exact absurd h56 (fun q => q m1_lt)
  | succ m ih =>
    intro D1 hm hs hl hf
    obtain ⟨q1, q2, q3, q4, q5, q6⟩ := hp.facts
    have hz := sz_le n
    have hq : (n - fos (sz n)) / 4 ^ (sz n - (m + 1)) ≤ n - fos (sz n) := Nat.div_le_self _ _
    refine X_iload_n (nx := 56) dX1_read_55 rfl rfl rfl ?_
    refine X_if_lt (tgt := 80) (nx := 59) dX1_read_56 rfl rfl (fun h56 => ?_) (fun h56 => ?_)
    · exact absurd h56 (by rw [sub1]; exact nI_neg (by omega))
    · skip
      refine X_aload_n (nx := 60) dX1_read_59 rfl rfl rfl ?_
      refine M_getP (nx := 63) dX1_read_60 rfl fl_RX1_9 rfl (by first | assumption | rfl | decide | omega) (by first | assumption | rfl | decide | omega) (by first | assumption | rfl | decide | omega) ?_
      refine X_iload_n (nx := 64) dX1_read_63 rfl rfl rfl ?_
      refine X_top (sub1 m) ?_
      refine X_iload_n (nx := 65) dX1_read_64 rfl rfl rfl ?_
      refine X_iconst (v := 3) (nx := 66) dX1_read_65 rfl rfl ?_
      refine X_iand (nx := 67) dX1_read_66 rfl ?_
      refine X_top (and3 (by omega)) ?_
      refine Y_Sv3 (nx := 70) dX1_read_67 rfl ml_RX1_26 kj_X7_put ks_X7_put (sp_X7_put (i := m) (by omega) (by omega) rfl (by omega)) (by first | decide | omega) (by exact Nat.le_of_ble_eq_true rfl) ?_
      refine X_iload_n (nx := 71) dX1_read_70 rfl rfl rfl ?_
      refine X_iconst (v := 2) (nx := 72) dX1_read_71 rfl rfl ?_
      refine X_ishr (nx := 73) dX1_read_72 rfl ?_
      refine X_top (shr2 (by omega)) ?_
      refine X_istore_n (i := 2) (nx := 74) dX1_read_73 rfl rfl (by decide) rfl (st_s (st_s (st_0))) ?_
      refine X_iinc (nx := 77) dX1_read_74 rfl (by decide) rfl (show nI (m + 1) - 1 + Int32.ofInt (-1) = nI m - 1 by rw [sub1, dec1]) rfl (st_s (st_s (st_s (st_0)))) ?_
      refine X_goto (tgt := 55) dX1_read_77 rfl ?_
      have e1 : (n - fos (sz n)) / 4 ^ (sz n - (m + 1)) / 4 = (n - fos (sz n)) / 4 ^ (sz n - m) := by rw [Nat.div_div_eq_div_mul, show sz n - m = sz n - (m + 1) + 1 by omega, Nat.pow_succ]
      rw [e1]
      refine ih _ (by omega) ((up2_other (by omega)).trans hs) (fun k h1 h2 => ?_) (hf.tr (Fr.up (Or.inr rfl)))
      by_cases hk : k = m
      · subst hk
        rw [up2_same]
        show _ = nI ((n - fos (sz n)) / 4 ^ (sz n - 1 - k) % 4)
        rw [show sz n - 1 - k = sz n - (k + 1) by omega]
      · rw [up2_other (by omega)]; exact hl k (by omega) h2
theorem fos_le : ∀ i, i < 5 → fos i ≤ 85 := by decide
theorem lp_X1_read1 {p n : Nat} {D : Mem} (hp : isPa p) (hn : n < 341) : ∀ (m : Nat) (i : Nat), i + m = 5 → 1 ≤ i → X 2 138 j_X1_read 7 [some (.ref p), some (.int (nI n)), some (.int (nI i)), none] [] (138, P0, up2 D p 1 (nI (szf n i))) (fun x σ => ∃ D' : Mem, x = [] ∧ σ = wd D' ∧ LET D' p (pathL n) ∧ Fr (fun b => b = p ∨ b = p + 1) D D') := by
  intro m
  induction m with
  | zero =>
    intro i hi h1
    obtain ⟨q1, q2, q3, q4, q5, q6⟩ := hp.facts
    have hz := sz_le n
    have hi5 : i = 5 := by omega
    subst hi5
    show X 2 138 j_X1_read 7 _ [] (138, P0, up2 D p 1 (nI (sz n))) _
    refine X_iload_n (nx := 8) dX1_read_7 rfl rfl rfl ?_
    refine X_gs_fos (nx := 11) dX1_read_8 rfl gs_RX1_19 ?_
    refine X_slen (nx := 12) dX1_read_11 rfl (n := 5) (fun _ _ => rfl) ?_
    refine X_icmp_ge (tgt := 35) (nx := 15) dX1_read_12 rfl rfl (fun h12 => ?_) (fun h12 => ?_)
    · skip
      refine X_iload_n (nx := 36) dX1_read_35 rfl rfl rfl ?_
      refine X_gs_fos (nx := 39) dX1_read_36 rfl gs_RX1_19 ?_
      refine X_aload_n (nx := 40) dX1_read_39 rfl rfl rfl ?_
      refine M_getI (nx := 43) dX1_read_40 rfl fl_RX1_15 rfl (by first | assumption | rfl | decide | omega) (by first | assumption | rfl | decide | omega) ?_
      refine X_top (up2_same) ?_
      refine Y_Si2 (nx := 46) dX1_read_43 rfl ml_RX1_22 kj_X7_numberAt ks_X7_numberAt (sp_X7_numberAtF rfl (by omega)) (by first | decide | omega) (by exact Nat.le_of_ble_eq_true rfl) ?_
      refine X_top (fosI _ (by omega)) ?_
      refine X_isub (nx := 47) dX1_read_46 rfl ?_
      refine X_top (sub_nI (fos_sz n hn).1) ?_
      refine X_istore_n (i := 2) (nx := 48) dX1_read_47 rfl rfl (by decide) rfl (st_s (st_s (st_0))) ?_
      refine X_aload_n (nx := 49) dX1_read_48 rfl rfl rfl ?_
      refine M_getI (nx := 52) dX1_read_49 rfl fl_RX1_15 rfl (by first | assumption | rfl | decide | omega) (by first | assumption | rfl | decide | omega) ?_
      refine X_top (up2_same) ?_
      refine X_iconst (v := 1) (nx := 53) dX1_read_52 rfl rfl ?_
      refine X_isub (nx := 54) dX1_read_53 rfl ?_
      refine X_istore_n (i := 3) (nx := 55) dX1_read_54 rfl rfl (by decide) rfl (st_s (st_s (st_s (st_0)))) ?_
      have hq := lp_X1_read2 hp hn (sz n) (up2 D p 1 (nI (sz n))) (Nat.le_refl _) up2_same (fun k h1 h2 => by omega) (Fr.up (Or.inl rfl))
      rw [show sz n - sz n = 0 by omega, Nat.pow_zero, Nat.div_one] at hq
      exact hq
    · exact absurd h12 (fun q => q (nI_le (by omega) (by omega)))
  | succ m ih =>
    intro i hi h1
    obtain ⟨q1, q2, q3, q4, q5, q6⟩ := hp.facts
    refine X_iload_n (nx := 8) dX1_read_7 rfl rfl rfl ?_
    refine X_gs_fos (nx := 11) dX1_read_8 rfl gs_RX1_19 ?_
    refine X_slen (nx := 12) dX1_read_11 rfl (n := 5) (fun _ _ => rfl) ?_
    refine X_icmp_ge (tgt := 35) (nx := 15) dX1_read_12 rfl rfl (fun h12 => ?_) (fun h12 => ?_)
    · exact absurd h12 (nI_ge (by omega) (by omega))
    · skip
      refine X_iload_n (nx := 16) dX1_read_15 rfl rfl rfl ?_
      refine X_gs_fos (nx := 19) dX1_read_16 rfl gs_RX1_19 ?_
      refine X_iload_n (nx := 20) dX1_read_19 rfl rfl rfl ?_
      refine X_sld (nx := 21) dX1_read_20 rfl (n := 5) (fun _ _ => rfl) (vp_in_nI (by omega) (by omega)) ?_
      refine X_top ((congrArg (fun k => ([0, 1, 5, 21, 85] : List Int32).getD k 0) (nI_clamp (by omega))).trans (fosI i (by omega))) ?_
      refine X_icmp_lt (tgt := 29) (nx := 24) dX1_read_21 rfl rfl (fun h21 => ?_) (fun h21 => ?_)
      · skip
        rw [nI_ltI (by omega) (by have := fos_le i (by omega); omega)] at h21
        refine X_iinc (nx := 32) dX1_read_29 rfl (by decide) rfl (by first | exact ii1 _ | rfl) rfl (st_s (st_s (st_0))) ?_
        refine X_goto (tgt := 7) dX1_read_32 rfl ?_
        first
          | (have e1 : szf n (i + 1) = i := if_pos ⟨h1, by omega⟩
             have e2 := ih (i + 1) (by omega) (by omega)
             rw [e1] at e2
             rw [up2_up2]; exact e2)
          | (have e1 : szf n (i + 1) = szf n i := if_neg (by omega)
             have e2 := ih (i + 1) (by omega) (by omega)
             rw [e1] at e2
             exact e2)
      · skip
        rw [nI_ltI (by omega) (by have := fos_le i (by omega); omega)] at h21
        refine X_aload_n (nx := 25) dX1_read_24 rfl rfl rfl ?_
        refine X_iload_n (nx := 26) dX1_read_25 rfl rfl rfl ?_
        refine M_putI (nx := 29) dX1_read_26 rfl fl_RX1_15 rfl rfl (by first | assumption | rfl | decide | omega) (by first | assumption | rfl | decide | omega) ?_
        refine X_iinc (nx := 32) dX1_read_29 rfl (by decide) rfl (by first | exact ii1 _ | rfl) rfl (st_s (st_s (st_0))) ?_
        refine X_goto (tgt := 7) dX1_read_32 rfl ?_
        first
          | (have e1 : szf n (i + 1) = i := if_pos ⟨h1, by omega⟩
             have e2 := ih (i + 1) (by omega) (by omega)
             rw [e1] at e2
             rw [up2_up2]; exact e2)
          | (have e1 : szf n (i + 1) = szf n i := if_neg (by omega)
             have e2 := ih (i + 1) (by omega) (by omega)
             rw [e1] at e2
             exact e2)
theorem sp_X1_read {p n : Nat} {x : Int32} {D : Mem} (hp : isPa p) (hx : x = nI n) (hn : n < 341) : Rvx 2 j_X1_read [.ref p, .int x] D (fun D' => LET D' p (pathL n) ∧ Fr (fun b => b = p ∨ b = p + 1) D D') := by
  refine E.start 2 (ls := [some (.ref p), some (.int x), none, none]) (by decide +kernel) (Nat.le_of_ble_eq_true rfl) rfl (Nat.le_refl _) (Nat.le_refl _) ?_
  subst hx
  obtain ⟨q1, q2, q3, q4, q5, q6⟩ := hp.facts
  refine X_aload_n (nx := 1) dX1_read_0 rfl rfl rfl ?_
  refine X_iconst (v := 0) (nx := 2) dX1_read_1 rfl rfl ?_
  refine M_putI (nx := 5) dX1_read_2 rfl fl_RX1_15 rfl rfl (by first | assumption | rfl | decide | omega) (by first | assumption | rfl | decide | omega) ?_
  refine X_iconst (v := nI 1) (nx := 6) dX1_read_5 rfl rfl ?_
  refine X_istore_n (i := 2) (nx := 7) dX1_read_6 rfl rfl (by decide) rfl (st_s (st_s (st_0))) ?_
  exact lp_X1_read1 hp hn 4 1 rfl (Nat.le_refl _)
