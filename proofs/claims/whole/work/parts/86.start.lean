/-! THE LAW: the world at its entry -/
def fl_ : List Cond := flatC (Cond.and given_1 narrow_1)
theorem fl_in {w : Cond} (i : Nat) (h : fl_[i]? = some w) : w ∈ fl_ := List.mem_of_getElem? h
section START
variable {args : Array Value} {s : State} {A : Nat → Prop}
theorem el_fos : ∀ j, j < 5 → fl_[7 + j]? = some (Cond.eq (.elem (.static RX1 zF "[I") (.int (Int32.ofNat j))) (.int (([0, 1, 5, 21, 85] : List Int32).getD j 0))) := by decide +kernel
theorem st_fos (hs : ∀ w ∈ fl_, w.before args s = true) (hA : ∀ a : Nat, a < s.heap.size → ¬ A a) : ∃ t : Nat, (Term.static RX1 zF "[I").eval args s none [] s = some (.ref t) ∧ va_T .int t 5 (fun j => .int (([0, 1, 5, 21, 85] : List Int32).getD j 0)) A s s.heap :=
  va_Tof (f := fun j => .int (([0, 1, 5, 21, 85] : List Int32).getD j 0)) (by decide) (hs _ (fl_in 5 (by decide +kernel))) (va_eqt (hs _ (fl_in 6 (by decide +kernel)))) (fun j hj => va_eqt (hs _ (fl_in _ (el_fos j hj)))) hA
theorem el_ord : ∀ j, j < 32 → fl_[60 + j]? = some (Cond.eq (.elem (.static RX8 "ORDERS" "[I") (.int (Int32.ofNat j))) (.int (([0, 1, 2, 3, 4, 5, 6, 6, 0, 1, 3, 2, 4, 5, 6, 6, 5, 0, 1, 2, 3, 4, 5, 6, 4, 0, 1, 3, 2, 4, 5, 6] : List Int32).getD j 0))) := by decide +kernel
theorem st_ord (hs : ∀ w ∈ fl_, w.before args s = true) (hA : ∀ a : Nat, a < s.heap.size → ¬ A a) : ∃ t : Nat, (Term.static RX8 "ORDERS" "[I").eval args s none [] s = some (.ref t) ∧ va_T .int t 32 (fun j => .int (([0, 1, 2, 3, 4, 5, 6, 6, 0, 1, 3, 2, 4, 5, 6, 6, 5, 0, 1, 2, 3, 4, 5, 6, 4, 0, 1, 3, 2, 4, 5, 6] : List Int32).getD j 0)) A s s.heap :=
  va_Tof (f := fun j => .int (([0, 1, 2, 3, 4, 5, 6, 6, 0, 1, 3, 2, 4, 5, 6, 6, 5, 0, 1, 2, 3, 4, 5, 6, 4, 0, 1, 3, 2, 4, 5, 6] : List Int32).getD j 0)) (by decide) (hs _ (fl_in 58 (by decide +kernel))) (va_eqt (hs _ (fl_in 59 (by decide +kernel)))) (fun j hj => va_eqt (hs _ (fl_in _ (el_ord j hj)))) hA
theorem el_srv : ∀ j, j < 4 → fl_[95 + j]? = some (Cond.eq (.elem (.static RX8 "SERVED" "[I") (.int (Int32.ofNat j))) (.int (([3, 2, 4, 15] : List Int32).getD j 0))) := by decide +kernel
theorem st_srv (hs : ∀ w ∈ fl_, w.before args s = true) (hA : ∀ a : Nat, a < s.heap.size → ¬ A a) : ∃ t : Nat, (Term.static RX8 "SERVED" "[I").eval args s none [] s = some (.ref t) ∧ va_T .int t 4 (fun j => .int (([3, 2, 4, 15] : List Int32).getD j 0)) A s s.heap :=
  va_Tof (f := fun j => .int (([3, 2, 4, 15] : List Int32).getD j 0)) (by decide) (hs _ (fl_in 93 (by decide +kernel))) (va_eqt (hs _ (fl_in 94 (by decide +kernel)))) (fun j hj => va_eqt (hs _ (fl_in _ (el_srv j hj)))) hA
theorem el_orc : ∀ j, j < 42 → fl_[15 + j]? = some (Cond.eq (.elem (.static RX6 "ORDERS" "[C") (.int (Int32.ofNat j))) (.int (([69, 76, 67, 65, 82, 77, 32, 69, 76, 65, 67, 82, 77, 32, 77, 69, 76, 67, 65, 82, 77, 82, 69, 76, 65, 67, 82, 77, 69, 76, 67, 65, 82, 77, 32, 69, 76, 67, 65, 82, 77, 32] : List Int32).getD j 0))) := by decide +kernel
theorem st_orc (hs : ∀ w ∈ fl_, w.before args s = true) (hA : ∀ a : Nat, a < s.heap.size → ¬ A a) : ∃ t : Nat, (Term.static RX6 "ORDERS" "[C").eval args s none [] s = some (.ref t) ∧ va_T .char t 42 (fun j => .int (([69, 76, 67, 65, 82, 77, 32, 69, 76, 65, 67, 82, 77, 32, 77, 69, 76, 67, 65, 82, 77, 82, 69, 76, 65, 67, 82, 77, 69, 76, 67, 65, 82, 77, 32, 69, 76, 67, 65, 82, 77, 32] : List Int32).getD j 0)) A s s.heap :=
  va_Tof (f := fun j => .int (([69, 76, 67, 65, 82, 77, 32, 69, 76, 65, 67, 82, 77, 32, 77, 69, 76, 67, 65, 82, 77, 82, 69, 76, 65, 67, 82, 77, 69, 76, 67, 65, 82, 77, 32, 69, 76, 67, 65, 82, 77, 32] : List Int32).getD j 0)) (by decide) (hs _ (fl_in 13 (by decide +kernel))) (va_eqt (hs _ (fl_in 14 (by decide +kernel)))) (fun j hj => va_eqt (hs _ (fl_in _ (el_orc j hj)))) hA
def adL (t0 t1 t2 t3 b : Nat) (a : Nat) : Nat := if a = 2000 then t0 else if a = 2001 then t1 else if a = 2002 then t2 else if a = 2003 then b else t3
theorem adL_0 {t0 t1 t2 t3 b : Nat} : adL t0 t1 t2 t3 b 2000 = t0 := if_pos rfl
theorem adL_1 {t0 t1 t2 t3 b : Nat} : adL t0 t1 t2 t3 b 2001 = t1 := by
  unfold adL
  rw [if_neg (by omega), if_pos rfl]
theorem adL_2 {t0 t1 t2 t3 b : Nat} : adL t0 t1 t2 t3 b 2002 = t2 := by
  unfold adL
  rw [if_neg (by omega), if_neg (by omega), if_pos rfl]
theorem adL_3 {t0 t1 t2 t3 b : Nat} : adL t0 t1 t2 t3 b 2003 = b := by
  unfold adL
  rw [if_neg (by omega), if_neg (by omega), if_neg (by omega), if_pos rfl]
theorem adL_5 {t0 t1 t2 t3 b : Nat} : adL t0 t1 t2 t3 b 2005 = t3 := by
  unfold adL
  rw [if_neg (by omega), if_neg (by omega), if_neg (by omega), if_neg (by omega)]
theorem st_X {b L : Nat} {xs : Nat → Int32} (hX : va_X b L xs s s.heap) (hb : ¬ A b) : va_T .int b L (fun j => .int (xs j)) A s s.heap := by
  obtain ⟨scr, h1, h2, h3, h4, h5⟩ := hX
  exact ⟨scr, h1, h2, h3, Nat.le_of_eq h4.symm, congrArg Int32.ofNat h4, h5, hb⟩
theorem st_SK {b L : Nat} {xs : Nat → Int32} (hts : ∀ w ∈ lw_tbl, w.before args s = true) (hs : ∀ w ∈ fl_, w.before args s = true) (hX : va_X b L xs s s.heap) (hA : ∀ a : Nat, a < s.heap.size → ¬ A a) (hb : ¬ A b) : ∃ ad : Nat → Nat, ad 2003 = b ∧ SK ad xs L A s s.heap := by
  obtain ⟨t0, v0, T0⟩ := st_fos (A := A) hs hA
  obtain ⟨t1, v1, T1⟩ := st_ord (A := A) hs hA
  obtain ⟨t2, v2, T2⟩ := st_srv (A := A) hs hA
  obtain ⟨t3, v3, T4⟩ := st_orc (A := A) hs hA
  have T3 := st_X (A := A) hX hb
  have z0 : va_Z RX1 zF "[I" (.ref t0) A s s.heap := va_Zof (hts _ (tb_in 502 (by decide +kernel))) (hts _ (tb_in 11 (by decide +kernel))) v0 hA
  have z1 : va_Z RX8 "ORDERS" "[I" (.ref t1) A s s.heap := va_Zof (hts _ (tb_in 1088 (by decide +kernel))) (hts _ (tb_in 8 (by decide +kernel))) v1 hA
  have z2 : va_Z RX8 "SERVED" "[I" (.ref t2) A s s.heap := va_Zof (hts _ (tb_in 1117 (by decide +kernel))) (hts _ (tb_in 8 (by decide +kernel))) v2 hA
  have z3 : va_Z RX6 "ORDERS" "[C" (.ref t3) A s s.heap := va_Zof (hts _ (tb_in 524 (by decide +kernel))) (hts _ (tb_in 4 (by decide +kernel))) v3 hA
  refine ⟨adL t0 t1 t2 t3 b, adL_3, ?_, ⟨by rw [adL_0]; exact z0, by rw [adL_1]; exact z1, by rw [adL_2]; exact z2, by rw [adL_5]; exact z3⟩, by rw [adL_5]; exact T4, fun w hw hn => va_Nw.of (isNest_tab hn) (hts w hw), va_AO.of (hts _ (tb_in 27 (by decide +kernel)))⟩
  · intro a n g e
    unfold sarr at e
    split at e
    · rename_i h
      cases e; subst h
      rw [adL_0]; exact T0
    · split at e
      · rename_i h
        cases e; subst h
        rw [adL_1]; exact T1
      · split at e
        · rename_i h
          cases e; subst h
          rw [adL_2]; exact T2
        · split at e
          · rename_i h
            cases e; subst h
            rw [adL_3]; exact T3
          · cases e
theorem st_K (hb : ∀ w ∈ big, w.before args s = true) (hao : va_AO RX4 s) : ∃ (D : va_G) (cI cR : ClassId), va_K D vwCl [(cI, .int), (cR, .object RX4)] s := by
  obtain ⟨c0, i0, k0⟩ := u_known (C := RX0) (T := TX0) (N := 5) (n := 5) hb cf_X0.2.2.2.2.1 (hb _ in_RX0.1)
  obtain ⟨c1, i1, k1⟩ := u_known (C := RX2) (T := TX2) (N := 2) (n := 2) hb cf_X2.2.2.2.2.1 (hb _ in_RX2.1)
  obtain ⟨c2, i2, k2⟩ := u_known (C := RX2) (T := TX2) (N := 2) (n := 2) hb cf_X2.2.2.2.2.1 (hb _ in_RX2.1)
  obtain ⟨c3, i3, k3⟩ := u_known (C := RX4) (T := TX4) (N := 7) (n := 7) hb cf_X4.2.2.2.2.1 (hb _ in_RX4.1)
  obtain ⟨c4, i4, k4⟩ := u_known (C := RX5) (T := TX5) (N := 12) (n := 12) hb cf_X5.2.2.2.2.1 (hb _ in_RX5.1)
  obtain ⟨c5, i5, k5⟩ := u_known (C := RX6) (T := TX6) (N := 11) (n := 11) hb cf_X6.2.2.2.2.1 (hb _ in_RX6.1)
  obtain ⟨c6, i6, k6⟩ := u_known (C := RX7) (T := TX7) (N := 10) (n := 10) hb cf_X7.2.2.2.2.1 (hb _ in_RX7.1)
  obtain ⟨c7, i7, k7⟩ := u_known (C := RX8) (T := TX8) (N := 52) (n := 52) hb cf_X8.2.2.2.2.1 (hb _ in_RX8.1)
  obtain ⟨cI, kA, compI, a1, a2, a3⟩ := Cond.arrayClass_spec (args := args) (first := s) (o := none) (s := s) (idx := []) (hb _ ac_int)
  obtain ⟨comp, cR, kR, r1, r2, r3, r4, r5⟩ := Cond.arrayOver_spec hao
  refine ⟨(fun k => if k = 0 then c0 else if k = 1 then c1 else if k = 2 then c2 else if k = 3 then c3 else if k = 4 then c4 else if k = 5 then c5 else if k = 6 then c6 else c7, fun k => if k = 0 then i0 else if k = 1 then i1 else if k = 2 then i2 else if k = 3 then i3 else if k = 4 then i4 else if k = 5 then i5 else if k = 6 then i6 else i7), cI, cR, fun k q hq => ?_, fun k q hq => ?_⟩
  · match k, hq with
    | 0, hq => cases hq; exact k0
    | 1, hq => cases hq; exact k1
    | 2, hq => cases hq; exact k2
    | 3, hq => cases hq; exact k3
    | 4, hq => cases hq; exact k4
    | 5, hq => cases hq; exact k5
    | 6, hq => cases hq; exact k6
    | 7, hq => cases hq; exact k7
    | k + 8, hq => simp [vwCl] at hq
  · match k, hq with
    | 0, hq => cases hq; exact ⟨fun n z => ⟨(fun k h => by cases h), kA, a2, compI, a3⟩, a1⟩
    | 1, hq => cases hq; exact ⟨fun n z => ⟨(fun k h => by cases h), kR, r3, comp, r4⟩, kR, comp, r3, r4, r1, r5⟩
    | k + 2, hq => simp at hq
end START
