/-! THE LAW: the world at its entry -/
def fl_ : List Cond := flatC (Cond.and given_1 narrow_1)
theorem fl_in {w : Cond} (i : Nat) (h : fl_[i]? = some w) : w ∈ fl_ := List.mem_of_getElem? h
section START
variable {args : Array Value} {s : State} {A : Nat → Prop}
theorem el_fos : ∀ j, j < 5 → fl_[7 + j]? = some (Cond.eq (.elem (.static RX1 zF "[I") (.int (Int32.ofNat j))) (.int (([0, 1, 5, 21, 85] : List Int32).getD j 0))) := by decide +kernel
theorem st_fos (hs : ∀ w ∈ fl_, w.before args s = true) (hA : ∀ a : Nat, a < s.heap.size → ¬ A a) : ∃ t : Nat, (Term.static RX1 zF "[I").eval args s none [] s = some (.ref t) ∧ va_T .int t 5 (fun j => .int (([0, 1, 5, 21, 85] : List Int32).getD j 0)) A s s.heap :=
  va_Tof (f := fun j => .int (([0, 1, 5, 21, 85] : List Int32).getD j 0)) (by decide) (hs _ (fl_in 5 (by decide +kernel))) (va_eqt (hs _ (fl_in 6 (by decide +kernel)))) (fun j hj => va_eqt (hs _ (fl_in _ (el_fos j hj)))) hA
theorem el_ord : ∀ j, j < 32 → fl_[20 + j]? = some (Cond.eq (.elem (.static RX8 "ORDERS" "[I") (.int (Int32.ofNat j))) (.int (([0, 1, 2, 3, 4, 5, 6, 6, 0, 1, 3, 2, 4, 5, 6, 6, 5, 0, 1, 2, 3, 4, 5, 6, 4, 0, 1, 3, 2, 4, 5, 6] : List Int32).getD j 0))) := by decide +kernel
theorem st_ord (hs : ∀ w ∈ fl_, w.before args s = true) (hA : ∀ a : Nat, a < s.heap.size → ¬ A a) : ∃ t : Nat, (Term.static RX8 "ORDERS" "[I").eval args s none [] s = some (.ref t) ∧ va_T .int t 32 (fun j => .int (([0, 1, 2, 3, 4, 5, 6, 6, 0, 1, 3, 2, 4, 5, 6, 6, 5, 0, 1, 2, 3, 4, 5, 6, 4, 0, 1, 3, 2, 4, 5, 6] : List Int32).getD j 0)) A s s.heap :=
  va_Tof (f := fun j => .int (([0, 1, 2, 3, 4, 5, 6, 6, 0, 1, 3, 2, 4, 5, 6, 6, 5, 0, 1, 2, 3, 4, 5, 6, 4, 0, 1, 3, 2, 4, 5, 6] : List Int32).getD j 0)) (by decide) (hs _ (fl_in 18 (by decide +kernel))) (va_eqt (hs _ (fl_in 19 (by decide +kernel)))) (fun j hj => va_eqt (hs _ (fl_in _ (el_ord j hj)))) hA
theorem el_srv : ∀ j, j < 4 → fl_[55 + j]? = some (Cond.eq (.elem (.static RX8 "SERVED" "[I") (.int (Int32.ofNat j))) (.int (([3, 2, 4, 15] : List Int32).getD j 0))) := by decide +kernel
theorem st_srv (hs : ∀ w ∈ fl_, w.before args s = true) (hA : ∀ a : Nat, a < s.heap.size → ¬ A a) : ∃ t : Nat, (Term.static RX8 "SERVED" "[I").eval args s none [] s = some (.ref t) ∧ va_T .int t 4 (fun j => .int (([3, 2, 4, 15] : List Int32).getD j 0)) A s s.heap :=
  va_Tof (f := fun j => .int (([3, 2, 4, 15] : List Int32).getD j 0)) (by decide) (hs _ (fl_in 53 (by decide +kernel))) (va_eqt (hs _ (fl_in 54 (by decide +kernel)))) (fun j hj => va_eqt (hs _ (fl_in _ (el_srv j hj)))) hA
def exP (i : Nat) : Nat := [59, 69, 81, 94].getD i 0
theorem el_s1 : ∀ i, i < 4 → fl_[exP i]? = some (Cond.exactly (.string RX6 (99 + 2 * i)) "java/lang/String") ∧ fl_[exP i + 1]? = some (Cond.eq (.field (.string RX6 (99 + 2 * i)) "java/lang/String" "coder" "B") (.int 0)) ∧ fl_[exP i + 2]? = some (Cond.arrayOf (.field (.string RX6 (99 + 2 * i)) "java/lang/String" "value" "[B") .byte) ∧ fl_[exP i + 3]? = some (Cond.eq (.length (.field (.string RX6 (99 + 2 * i)) "java/lang/String" "value" "[B")) (.int (Int32.ofNat (lenS.getD i 0)))) := by decide +kernel
theorem el_s2 : ∀ i, i < 4 → ∀ j, j < lenS.getD i 0 → fl_[exP i + 4 + j]? = some (Cond.eq (.elem (.field (.string RX6 (99 + 2 * i)) "java/lang/String" "value" "[B") (.int (Int32.ofNat j))) (.int ((bytS.getD i []).getD j 0))) := by decide +kernel
def neP (i j : Nat) : Nat := if j = 1 then 80 else if j = 2 then 92 + i else 104 + i
theorem el_s3 : ∀ j, j < 4 → ∀ i, i < j → fl_[neP i j]? = some (Cond.not (Cond.eq (.string RX6 (99 + 2 * i)) (.string RX6 (99 + 2 * j)))) := by decide +kernel
theorem lenS_lt : ∀ i, i < 4 → lenS.getD i 0 < 2 ^ 31 := by decide
theorem st_str (hs : ∀ w ∈ fl_, w.before args s = true) (hA : ∀ a : Nat, a < s.heap.size → ¬ A a) : ∃ adK adV : Nat → Nat, vk_S 4 lenS bytS adK adV A s s.heap ∧ ∀ i : Nat, i < 4 → (Term.string RX6 (99 + 2 * i)).eval args s none [] s = some (.ref (adK i)) :=
  vk_Sof (tm := fun i => Term.string RX6 (99 + 2 * i)) lenS_lt (fun i hi => hs _ (fl_in _ (el_s1 i hi).1)) (fun i hi => hs _ (fl_in _ (el_s1 i hi).2.1)) (fun i hi => hs _ (fl_in _ (el_s1 i hi).2.2.1)) (fun i hi => hs _ (fl_in _ (el_s1 i hi).2.2.2)) (fun i hi j hj => hs _ (fl_in _ (el_s2 i hi j hj)))
    (fun i j hi hj hij => if h : i < j then Or.inl (hs _ (fl_in _ (el_s3 j hj i h))) else Or.inr (hs _ (fl_in _ (el_s3 i hi j (by omega))))) hA
theorem st_ref {t : Term} (h : (Cond.isRef t).before args s = true) : t.eval args s none [] s = some .null ∨ ∃ a : Nat, t.eval args s none [] s = some (.ref a) := by
  obtain ⟨v, h1, h2⟩ := Cond.isRef_spec (args := args) (first := s) (o := none) (s := s) (idx := []) (t := t) h
  cases v <;> first | exact Or.inl h1 | exact Or.inr ⟨_, h1⟩ | (simp [Value.isRef] at h2)
def adL (t0 t1 t2 b f : Nat) (kK kV : Nat → Nat) (a : Nat) : Nat := if a = 2000 then t0 else if a = 2001 then t1 else if a = 2002 then t2 else if a = 2003 then b else if a = 2030 then f else if a < 2020 then kK (a - 2010) else kV (a - 2020)
theorem adL_K {t0 t1 t2 b f : Nat} {kK kV : Nat → Nat} {i : Nat} (h : i < 4) : adL t0 t1 t2 b f kK kV (2010 + i) = kK i := by
  unfold adL
  rw [if_neg (by omega), if_neg (by omega), if_neg (by omega), if_neg (by omega), if_neg (by omega), if_pos (by omega), Nat.add_sub_cancel_left]
theorem adL_V {t0 t1 t2 b f : Nat} {kK kV : Nat → Nat} {i : Nat} (h : i < 4) : adL t0 t1 t2 b f kK kV (2020 + i) = kV i := by
  unfold adL
  rw [if_neg (by omega), if_neg (by omega), if_neg (by omega), if_neg (by omega), if_neg (by omega), if_neg (by omega), Nat.add_sub_cancel_left]
theorem adL_0 {t0 t1 t2 b f : Nat} {kK kV : Nat → Nat} : adL t0 t1 t2 b f kK kV 2000 = t0 := if_pos rfl
theorem adL_1 {t0 t1 t2 b f : Nat} {kK kV : Nat → Nat} : adL t0 t1 t2 b f kK kV 2001 = t1 := by
  unfold adL
  rw [if_neg (by omega), if_pos rfl]
theorem adL_2 {t0 t1 t2 b f : Nat} {kK kV : Nat → Nat} : adL t0 t1 t2 b f kK kV 2002 = t2 := by
  unfold adL
  rw [if_neg (by omega), if_neg (by omega), if_pos rfl]
theorem adL_3 {t0 t1 t2 b f : Nat} {kK kV : Nat → Nat} : adL t0 t1 t2 b f kK kV 2003 = b := by
  unfold adL
  rw [if_neg (by omega), if_neg (by omega), if_neg (by omega), if_pos rfl]
theorem adL_f {t0 t1 t2 b f : Nat} {kK kV : Nat → Nat} : adL t0 t1 t2 b f kK kV 2030 = f := by
  unfold adL
  rw [if_neg (by omega), if_neg (by omega), if_neg (by omega), if_neg (by omega), if_pos rfl]
theorem st_strR : ∀ i, i < 4 → tables_1[544 + i]? = some (Cond.stringRef RX6 (99 + 2 * i) (txS.getD i "")) := by decide +kernel
theorem st_X {b L : Nat} {xs : Nat → Int32} (hX : va_X b L xs s s.heap) (hb : ¬ A b) : va_T .int b L (fun j => .int (xs j)) A s s.heap := by
  obtain ⟨scr, h1, h2, h3, h4, h5⟩ := hX
  exact ⟨scr, h1, h2, h3, Nat.le_of_eq h4.symm, congrArg Int32.ofNat h4, h5, hb⟩
theorem st_SK {b L : Nat} {xs : Nat → Int32} (hts : ∀ w ∈ lw_tbl, w.before args s = true) (hs : ∀ w ∈ fl_, w.before args s = true) (hX : va_X b L xs s s.heap) (hA : ∀ a : Nat, a < s.heap.size → ¬ A a) (hb : ¬ A b) : ∃ ad : Nat → Nat, ad 2003 = b ∧ SK ad xs L A s s.heap := by
  obtain ⟨t0, v0, T0⟩ := st_fos (A := A) hs hA
  obtain ⟨t1, v1, T1⟩ := st_ord (A := A) hs hA
  obtain ⟨t2, v2, T2⟩ := st_srv (A := A) hs hA
  obtain ⟨kK, kV, T4, v4⟩ := st_str (A := A) hs hA
  have T3 := st_X (A := A) hX hb
  have z0 : va_Z RX1 zF "[I" (.ref t0) A s s.heap := va_Zof (hts _ (tb_in 520 (by decide +kernel))) (hts _ (tb_in 6 (by decide +kernel))) v0 hA
  have z1 : va_Z RX8 "ORDERS" "[I" (.ref t1) A s s.heap := va_Zof (hts _ (tb_in 1170 (by decide +kernel))) (hts _ (tb_in 9 (by decide +kernel))) v1 hA
  have z2 : va_Z RX8 "SERVED" "[I" (.ref t2) A s s.heap := va_Zof (hts _ (tb_in 1199 (by decide +kernel))) (hts _ (tb_in 9 (by decide +kernel))) v2 hA
  have z3 : va_Z "java/lang/String" "COMPACT_STRINGS" "Z" (.int 1) A s s.heap := va_Zof (hts _ (tb_in 557 (by decide +kernel))) (hts _ (tb_in 12 (by decide +kernel))) (va_eqi (hs _ (fl_in 12 (by decide +kernel)))) hA
  obtain ⟨f, z4⟩ : ∃ f : Nat, va_Z "jdk/internal/util/Preconditions" "SIOOBE_FORMATTER" zB .null A s s.heap ∨ va_Z "jdk/internal/util/Preconditions" "SIOOBE_FORMATTER" zB (.ref f) A s s.heap := by
    rcases st_ref (t := .static "jdk/internal/util/Preconditions" "SIOOBE_FORMATTER" zB) (hs _ (fl_in 13 (by decide +kernel))) with h | ⟨a, h⟩
    · exact ⟨0, Or.inl (va_Zof (hts _ (tb_in 573 (by decide +kernel))) (hts _ (tb_in 14 (by decide +kernel))) h hA)⟩
    · exact ⟨a, Or.inr (va_Zof (hts _ (tb_in 573 (by decide +kernel))) (hts _ (tb_in 14 (by decide +kernel))) h hA)⟩
  refine ⟨adL t0 t1 t2 b f kK kV, adL_3, ?_, ⟨by rw [adL_0]; exact z0, by rw [adL_1]; exact z1, by rw [adL_2]; exact z2, z3⟩, by rw [adL_f]; exact z4, ⟨fun i hi => ?_, fun i j hi hj e => ?_⟩, fun i hi => ?_, fun w hw hn => va_Nw.of (isNest_tab hn) (hts w hw), va_AO.of (hts _ (tb_in 31 (by decide +kernel)))⟩
  · intro a n g e
    unfold sarr at e
    split at e
    · rename_i h
      cases e; subst h
      rw [adL_0]; exact T0
    · split at e
      · rename_i h
        cases e; subst h
        rw [adL_1]; exact T1
      · split at e
        · rename_i h
          cases e; subst h
          rw [adL_2]; exact T2
        · split at e
          · rename_i h
            cases e; subst h
            rw [adL_3]; exact T3
          · cases e
  · dsimp only
    rw [adL_K hi, adL_V hi]
    exact T4.1 i hi
  · dsimp only at e
    rw [adL_K hi, adL_K hj] at e
    exact T4.2 i j hi hj e
  · rw [adL_K hi]
    exact vk_R.of (hts _ (tb_in _ (st_strR i hi))) (v4 i hi)
theorem st_K (hb : ∀ w ∈ big, w.before args s = true) (hao : va_AO RX4 s) : ∃ (D : va_G) (cI cR : ClassId), va_K D vwCl [(cI, .int), (cR, .object RX4)] s := by
  obtain ⟨c0, i0, k0⟩ := u_known (C := RX0) (T := TX0) (N := 5) (n := 5) hb cf_X0.2.2.2.2.1 (hb _ in_RX0.1)
  obtain ⟨c1, i1, k1⟩ := u_known (C := RX1) (T := TX1) (N := 2) (n := 2) hb cf_X1.2.2.2.2.1 (hb _ in_RX1.1)
  obtain ⟨c2, i2, k2⟩ := u_known (C := RX2) (T := TX2) (N := 2) (n := 2) hb cf_X2.2.2.2.2.1 (hb _ in_RX2.1)
  obtain ⟨c3, i3, k3⟩ := u_known (C := RX4) (T := TX4) (N := 7) (n := 7) hb cf_X4.2.2.2.2.1 (hb _ in_RX4.1)
  obtain ⟨c4, i4, k4⟩ := u_known (C := RX5) (T := TX5) (N := 12) (n := 12) hb cf_X5.2.2.2.2.1 (hb _ in_RX5.1)
  obtain ⟨c5, i5, k5⟩ := u_known (C := RX6) (T := TX6) (N := 11) (n := 11) hb cf_X6.2.2.2.2.1 (hb _ in_RX6.1)
  obtain ⟨c6, i6, k6⟩ := u_known (C := RX7) (T := TX7) (N := 10) (n := 10) hb cf_X7.2.2.2.2.1 (hb _ in_RX7.1)
  obtain ⟨c7, i7, k7⟩ := u_known (C := RX8) (T := TX8) (N := 52) (n := 52) hb cf_X8.2.2.2.2.1 (hb _ in_RX8.1)
  obtain ⟨cI, kA, compI, a1, a2, a3⟩ := Cond.arrayClass_spec (args := args) (first := s) (o := none) (s := s) (idx := []) (hb _ ac_int)
  obtain ⟨comp, cR, kR, r1, r2, r3, r4, r5⟩ := Cond.arrayOver_spec hao
  refine ⟨(fun k => if k = 0 then c0 else if k = 1 then c1 else if k = 2 then c2 else if k = 3 then c3 else if k = 4 then c4 else if k = 5 then c5 else if k = 6 then c6 else c7, fun k => if k = 0 then i0 else if k = 1 then i1 else if k = 2 then i2 else if k = 3 then i3 else if k = 4 then i4 else if k = 5 then i5 else if k = 6 then i6 else i7), cI, cR, fun k q hq => ?_, fun k q hq => ?_⟩
  · match k, hq with
    | 0, hq => cases hq; exact k0
    | 1, hq => cases hq; exact k1
    | 2, hq => cases hq; exact k2
    | 3, hq => cases hq; exact k3
    | 4, hq => cases hq; exact k4
    | 5, hq => cases hq; exact k5
    | 6, hq => cases hq; exact k6
    | 7, hq => cases hq; exact k7
    | k + 8, hq => simp [vwCl] at hq
  · match k, hq with
    | 0, hq => cases hq; exact ⟨fun n z => ⟨(fun k h => by cases h), kA, a2, compI, a3⟩, a1⟩
    | 1, hq => cases hq; exact ⟨fun n z => ⟨(fun k h => by cases h), kR, r3, comp, r4⟩, kR, comp, r3, r4, r1, r5⟩
    | k + 2, hq => simp at hq
end START
