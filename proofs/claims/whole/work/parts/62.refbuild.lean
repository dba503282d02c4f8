/-! THE REFERENCE: build -/
def GV2 (D : Mem) (g : Nat → Nat) : Prop := ∀ k, k < 4 → D 133 k = nI (g k) ∧ g k < 4
/-- what is built so far, and whether all fitted -/
def BST (D : Mem) (ok : Bool) (M : List Nat) : Prop := D 104 47 = b2i ok ∧ D 104 46 = nI M.length ∧ (∀ k, k < M.length → D 134 k = nI (M.getD k 0)) ∧ M.length ≤ 12 ∧ ∀ x ∈ M, x < 4
def SBD (b i : Nat) : Prop := (b = 104 ∧ (i = 46 ∨ i = 47)) ∨ b = 134
def lts (s : List Nat) (g : Nat → Nat) : Nat → Nat → List Nat
  | _, 0 => []
  | i, n + 1 => lyl s g i :: lts s g (i + 1) n
def ftF (s : List Nat) (g : Nat → Nat) : Nat → Bool := fun i => fitT (typ (s.getD i 0)) (lyl s g i)
theorem lts_len {s : List Nat} {g : Nat → Nat} : ∀ n i, (lts s g i n).length = n := by
  intro n
  induction n with
  | zero => intro i; rfl
  | succ n ih => intro i; show (lts s g (i + 1) n).length + 1 = n + 1; rw [ih]
theorem layI_eq {s : List Nat} {g : Nat → Nat} : ∀ n i M, layI s g i n M = if alB (ftF s g) i n = true ∧ (n = 0 ∨ M.length + n ≤ 4) then some (M ++ lts s g i n) else none := by
  intro n
  induction n with
  | zero =>
    intro i M
    rw [if_pos ⟨rfl, Or.inl rfl⟩]
    show some M = some (M ++ [])
    rw [List.append_nil]
  | succ n ih =>
    intro i M
    have e : (M ++ [lyl s g i]).length = M.length + 1 := by rw [List.length_append]; rfl
    by_cases hf : fitT (typ (s.getD i 0)) (lyl s g i) = true
    · have h1 : alB (ftF s g) i (n + 1) = alB (ftF s g) (i + 1) n := al_1 hf
      by_cases hl : M.length < 4
      · rw [show layI s g i (n + 1) M = layI s g (i + 1) n (M ++ [lyl s g i]) from if_pos ⟨hf, hl⟩, ih, h1, e]
        have e2 : (M ++ [lyl s g i]) ++ lts s g (i + 1) n = M ++ lts s g i (n + 1) := by rw [List.append_assoc]; rfl
        rw [e2]
        by_cases h2 : alB (ftF s g) (i + 1) n = true ∧ (n = 0 ∨ M.length + 1 + n ≤ 4)
        · rw [if_pos h2, if_pos ⟨h2.1, Or.inr (by omega)⟩]
        · rw [if_neg h2, if_neg (fun w => h2 ⟨w.1, by omega⟩)]
      · rw [show layI s g i (n + 1) M = none from if_neg (fun w => hl w.2), if_neg (fun w => by omega)]
    · rw [show layI s g i (n + 1) M = none from if_neg (fun w => hf w.1), if_neg (fun w => by rw [al_0 (show ftF s g i = false from Bool.eq_false_iff.mpr hf)] at w; cases w.1)]
def bdS (B : Bk) (g : Nat → Nat) (r : Nat) (t : Bool × List Nat) : Bool × List Nat := (t.1 && alB (ftF (sg_ B r) g) 0 (pl (sg_ B r)), t.2 ++ lts (sg_ B r) g 0 (pl (sg_ B r)))
def fin4 (t : Bool × List Nat) : Option (List Nat) := if t.1 = true ∧ t.2.length ≤ 4 then some t.2 else none
theorem bd_fin {B : Bk} {g : Nat → Nat} {r : Nat} {t : Bool × List Nat} : fin4 (bdS B g r t) = match fin4 t with
    | none => none
    | some M => layR B g r M := by
  obtain ⟨ok, M⟩ := t
  have e : (M ++ lts (sg_ B r) g 0 (pl (sg_ B r))).length = M.length + pl (sg_ B r) := by rw [List.length_append, lts_len]
  unfold fin4 bdS
  dsimp only
  rw [e]
  by_cases h : ok = true ∧ M.length ≤ 4
  · rw [if_pos h]
    dsimp only
    unfold layR
    rw [layI_eq]
    by_cases h2 : alB (ftF (sg_ B r) g) 0 (pl (sg_ B r)) = true ∧ (pl (sg_ B r) = 0 ∨ M.length + pl (sg_ B r) ≤ 4)
    · rw [if_pos h2, if_pos ⟨by rw [h.1, h2.1]; rfl, by omega⟩]
    · rw [if_neg h2, if_neg (fun w => h2 ⟨by have := w.1; rw [h.1, Bool.true_and] at this; exact this, Or.inr w.2⟩)]
  · rw [if_neg h, if_neg (fun w => h ⟨by have := w.1; simp only [Bool.and_eq_true] at this; exact this.1, by omega⟩)]
/-- the way, as the reference builds it -/
def bwS (B : Bk) (g : Nat → Nat) (R : Nat) : Bool × List Nat := if R = 0 then (true, []) else match wy B 2 R with
  | none => (false, [])
  | some m => bdS B g m (if ro_ B m = 0 then (true, []) else match wy B 2 (ro_ B m) with
    | none => (true, [])
    | some m2 => bdS B g m2 (true, []))
def ptS (B : Bk) (g : Nat → Nat) (r : Nat) : Bool × List Nat := bdS B g r (bwS B g (ro_ B r))
theorem wy_use {B : Bk} (hV : VB B) {R m : Nat} (hR : R < 3) (h : wy B 2 R = some m) : thN B m = true ∧ m < cm_ B ∧ ro_ B m < R ∧ (ro_ B m = 0 ∨ ∃ m2, wy B 2 (ro_ B m) = some m2) := by
  have h1 : ∃ W, wyP B W R m = true ∧ ∀ x, x < R → W x = wy B 2 x := by
    match R, hR with
    | 0, _ => cases h
    | 1, _ =>
      have h : fst_ (wyP B (wy B 0) 1) 0 10 = some m := h
      exact ⟨_, (fst_some h).2.2.1, fun x hx => by obtain rfl : x = 0 := (by omega); rfl⟩
    | 2, _ =>
      have h : fst_ (wyP B (wy B 1) 2) 0 10 = some m := h
      exact ⟨_, (fst_some h).2.2.1, fun x hx => (if_neg (by omega : ¬ x = 2)).symm⟩
  obtain ⟨W, h1, h2⟩ := h1
  unfold wyP at h1
  simp only [Bool.and_eq_true, decide_eq_true_eq, Bool.or_eq_true] at h1
  obtain ⟨a1, a2, a3⟩ := h1
  have hm : m < cm_ B := by unfold thN at a1; simp only [Bool.and_eq_true, decide_eq_true_eq] at a1; exact a1.1
  have hmt : mtB B m = true := by unfold mtB; rw [a2]; exact decide_eq_true (nI_pos' (by omega))
  obtain ⟨u, hu1, hu2, hu3, _⟩ := (hV.2.2 m hm).mount hmt
  rw [a2] at hu1
  have := (nI_eq (a := R) (b := u) (by omega) (by omega)).mp hu1
  refine ⟨a1, hm, by omega, a3.elim Or.inl (fun q => Or.inr ?_)⟩
  rw [h2 _ (by omega)] at q
  exact Option.isSome_iff_exists.mp q
theorem ptS_eq {B : Bk} (hV : VB B) {g : Nat → Nat} {r : Nat} (hr : r < cm_ B) : fin4 (ptS B g r) = pathB B g r := by
  unfold ptS pathB
  rw [bd_fin]
  have hro := (hV.2.2 r hr).1
  have hw : fin4 (bwS B g (ro_ B r)) = lwN B g 3 (ro_ B r) [] := by
    unfold bwS
    by_cases h0 : ro_ B r = 0
    · rw [if_pos h0, h0, lw_0]; rfl
    · rw [if_neg h0]
      cases hw : wy B 2 (ro_ B r) with
      | none =>
        dsimp only
        rw [lw_n h0 (Or.inr hw)]; rfl
      | some m =>
        dsimp only
        rw [bd_fin, lw_s h0 hw]
        obtain ⟨_, hm, hlt, hor⟩ := wy_use hV hro hw
        by_cases h1 : ro_ B m = 0
        · rw [if_pos h1, h1, lw_0]; rfl
        · rw [if_neg h1]
          obtain ⟨m2, hm2⟩ := hor.resolve_left h1
          obtain ⟨_, hm3, hlt2, _⟩ := wy_use hV (by omega) hm2
          have h2 : ro_ B m2 = 0 := by omega
          rw [hm2, lw_s h1 hm2, h2, lw_0]
          dsimp only
          rw [bd_fin]; rfl
  rw [hw]
  cases lwN B g 3 (ro_ B r) [] <;> rfl
theorem BST.add {D : Mem} {ok f : Bool} {M : List Nat} {l : Nat} {x : Int32} (h : BST D ok M) (hx : x = b2i (ok && f)) (hl : l < 4) (hM : M.length < 12) : BST (up2 (up2 (up2 D 104 47 x) 134 M.length (nI l)) 104 46 (nI (M.length + 1))) (ok && f) (M ++ [l]) := by
  obtain ⟨h1, h2, h3, h4, h5⟩ := h
  have e : (M ++ [l]).length = M.length + 1 := by rw [List.length_append]; rfl
  refine ⟨?_, ?_, fun k hk => ?_, by omega, fun y hy => ?_⟩
  · rw [up2_other (by omega), up2_other (by omega), up2_same, hx]
  · rw [up2_same, e]
  · rw [e] at hk
    rw [up2_ne (by omega)]
    by_cases q : k = M.length
    · subst q; rw [up2_same, getD_app2]
    · rw [up2_other (by omega), up2_other (by omega), getD_app1 (by omega)]; exact h3 k (by omega)
  · rcases List.mem_append.mp hy with hy | hy
    · exact h5 y hy
    · rw [List.mem_singleton.mp hy]; exact hl
theorem lyl_t {s : List Nat} {g : Nat → Nat} {i : Nat} (hs : sgv (s.getD i 0)) (h4 : s.getD i 0 ≠ 40) : (typ (s.getD i 0) < 4 → nI (typ (s.getD i 0)) = nI (lyl s g i)) ∧ (¬ typ (s.getD i 0) < 4 → s.getD i 0 % 10 < 4 ∧ lyl s g i = g (s.getD i 0 % 10)) := by
  unfold sgv at hs
  unfold typ lyl
  by_cases e : s.getD i 0 < 10
  · rw [if_pos e, if_pos e]
    exact ⟨fun _ => rfl, fun q => by omega⟩
  · rw [if_neg e, if_neg e]
    exact ⟨fun q => by omega, fun _ => ⟨by omega, rfl⟩⟩
theorem X_fgb {d k pc : Nat} {j : MI} {a b c o1 o2 : Option Value} {st : List Value} {σ : Wd} {Q : List Value → Wd → Prop} (hX : X d k j pc [a, b, c, none, none] st σ Q) : X d k j pc [a, b, c, o1, o2] st σ Q := by
  refine X_forget (fun i v h => ?_) hX
  match i, h with
  | 0, h => exact h
  | 1, h => exact h
  | 2, h => exact h
  | 3, h => cases h
  | 4, h => cases h
  | n + 5, h => cases h
theorem dX8_builds_0 : decode cX8_builds 0 = .ok (.iconst 0, 1) := by decide +kernel
theorem dX8_builds_1 : decode cX8_builds 1 = .ok (.istore_n 2, 1) := by decide +kernel
theorem dX8_builds_2 : decode cX8_builds 2 = .ok (.iload_n 2, 1) := by decide +kernel
theorem dX8_builds_3 : decode cX8_builds 3 = .ok (.aload_n 0, 1) := by decide +kernel
theorem dX8_builds_4 : decode cX8_builds 4 = .ok (.getfield 31, 3) := by decide +kernel
theorem dX8_builds_7 : decode cX8_builds 7 = .ok (.iload_n 1, 1) := by decide +kernel
theorem dX8_builds_8 : decode cX8_builds 8 = .ok (.iaload, 1) := by decide +kernel
theorem dX8_builds_9 : decode cX8_builds 9 = .ok (.if_icmp .ge 101, 3) := by decide +kernel
theorem dX8_builds_12 : decode cX8_builds 12 = .ok (.aload_n 0, 1) := by decide +kernel
theorem dX8_builds_13 : decode cX8_builds 13 = .ok (.iload_n 1, 1) := by decide +kernel
theorem dX8_builds_14 : decode cX8_builds 14 = .ok (.iload_n 2, 1) := by decide +kernel
theorem dX8_builds_15 : decode cX8_builds 15 = .ok (.invokevirtual 119, 3) := by decide +kernel
theorem dX8_builds_18 : decode cX8_builds 18 = .ok (.istore_n 3, 1) := by decide +kernel
theorem dX8_builds_19 : decode cX8_builds 19 = .ok (.iload_n 3, 1) := by decide +kernel
theorem dX8_builds_20 : decode cX8_builds 20 = .ok (.bipush 7, 2) := by decide +kernel
theorem dX8_builds_22 : decode cX8_builds 22 = .ok (.if_icmp .ne 6, 3) := by decide +kernel
theorem dX8_builds_25 : decode cX8_builds 25 = .ok (.goto 79, 3) := by decide +kernel
theorem dX8_builds_28 : decode cX8_builds 28 = .ok (.iload_n 3, 1) := by decide +kernel
theorem dX8_builds_29 : decode cX8_builds 29 = .ok (.iconst 4, 1) := by decide +kernel
theorem dX8_builds_30 : decode cX8_builds 30 = .ok (.if_icmp .ge 7, 3) := by decide +kernel
theorem dX8_builds_33 : decode cX8_builds 33 = .ok (.iload_n 3, 1) := by decide +kernel
theorem dX8_builds_34 : decode cX8_builds 34 = .ok (.goto 21, 3) := by decide +kernel
theorem dX8_builds_37 : decode cX8_builds 37 = .ok (.aload_n 0, 1) := by decide +kernel
theorem dX8_builds_38 : decode cX8_builds 38 = .ok (.getfield 94, 3) := by decide +kernel
theorem dX8_builds_41 : decode cX8_builds 41 = .ok (.aload_n 0, 1) := by decide +kernel
theorem dX8_builds_42 : decode cX8_builds 42 = .ok (.getfield 34, 3) := by decide +kernel
theorem dX8_builds_45 : decode cX8_builds 45 = .ok (.iconst 4, 1) := by decide +kernel
theorem dX8_builds_46 : decode cX8_builds 46 = .ok (.iload_n 1, 1) := by decide +kernel
theorem dX8_builds_47 : decode cX8_builds 47 = .ok (.imul, 1) := by decide +kernel
theorem dX8_builds_48 : decode cX8_builds 48 = .ok (.iload_n 2, 1) := by decide +kernel
theorem dX8_builds_49 : decode cX8_builds 49 = .ok (.iadd, 1) := by decide +kernel
theorem dX8_builds_50 : decode cX8_builds 50 = .ok (.iaload, 1) := by decide +kernel
theorem dX8_builds_51 : decode cX8_builds 51 = .ok (.bipush 10, 2) := by decide +kernel
theorem dX8_builds_53 : decode cX8_builds 53 = .ok (.irem, 1) := by decide +kernel
theorem dX8_builds_54 : decode cX8_builds 54 = .ok (.iaload, 1) := by decide +kernel
theorem dX8_builds_55 : decode cX8_builds 55 = .ok (.istore 4, 2) := by decide +kernel
theorem dX8_builds_57 : decode cX8_builds 57 = .ok (.aload_n 0, 1) := by decide +kernel
theorem dX8_builds_58 : decode cX8_builds 58 = .ok (.aload_n 0, 1) := by decide +kernel
theorem dX8_builds_59 : decode cX8_builds 59 = .ok (.getfield 341, 3) := by decide +kernel
theorem dX8_builds_62 : decode cX8_builds 62 = .ok (.ifCond .eq 17, 3) := by decide +kernel
theorem dX8_builds_65 : decode cX8_builds 65 = .ok (.aload_n 0, 1) := by decide +kernel
theorem dX8_builds_66 : decode cX8_builds 66 = .ok (.iload_n 3, 1) := by decide +kernel
theorem dX8_builds_67 : decode cX8_builds 67 = .ok (.iload 4, 2) := by decide +kernel
theorem dX8_builds_69 : decode cX8_builds 69 = .ok (.invokevirtual 332, 3) := by decide +kernel
theorem dX8_builds_72 : decode cX8_builds 72 = .ok (.ifCond .eq 7, 3) := by decide +kernel
theorem dX8_builds_75 : decode cX8_builds 75 = .ok (.iconst 1, 1) := by decide +kernel
theorem dX8_builds_76 : decode cX8_builds 76 = .ok (.goto 4, 3) := by decide +kernel
theorem dX8_builds_79 : decode cX8_builds 79 = .ok (.iconst 0, 1) := by decide +kernel
theorem dX8_builds_80 : decode cX8_builds 80 = .ok (.putfield 341, 3) := by decide +kernel
theorem dX8_builds_83 : decode cX8_builds 83 = .ok (.aload_n 0, 1) := by decide +kernel
theorem dX8_builds_84 : decode cX8_builds 84 = .ok (.getfield 97, 3) := by decide +kernel
theorem dX8_builds_87 : decode cX8_builds 87 = .ok (.aload_n 0, 1) := by decide +kernel
theorem dX8_builds_88 : decode cX8_builds 88 = .ok (.getfield 344, 3) := by decide +kernel
theorem dX8_builds_91 : decode cX8_builds 91 = .ok (.iload 4, 2) := by decide +kernel
theorem dX8_builds_93 : decode cX8_builds 93 = .ok (.iastore, 1) := by decide +kernel
theorem dX8_builds_94 : decode cX8_builds 94 = .ok (.aload_n 0, 1) := by decide +kernel
theorem dX8_builds_95 : decode cX8_builds 95 = .ok (.dup, 1) := by decide +kernel
theorem dX8_builds_96 : decode cX8_builds 96 = .ok (.getfield 344, 3) := by decide +kernel
theorem dX8_builds_99 : decode cX8_builds 99 = .ok (.iconst 1, 1) := by decide +kernel
theorem dX8_builds_100 : decode cX8_builds 100 = .ok (.iadd, 1) := by decide +kernel
theorem dX8_builds_101 : decode cX8_builds 101 = .ok (.putfield 344, 3) := by decide +kernel
theorem dX8_builds_104 : decode cX8_builds 104 = .ok (.iinc 2 1, 3) := by decide +kernel
theorem dX8_builds_107 : decode cX8_builds 107 = .ok (.goto (-105), 3) := by decide +kernel
theorem dX8_builds_110 : decode cX8_builds 110 = .ok (.return_, 1) := by decide +kernel
theorem lp_X8_builds {r : Nat} {g : Nat → Nat} {B : Bk} {K F : Nat → Nat} {D : Mem} (h : RB D B (th_ B) K F) (hV : VB B) (hg : GV2 D g) (hr : r < cm_ B) : ∀ (m : Nat) (i : Nat) (ok : Bool) (M : List Nat) (D1 : Mem), i + m = (sg_ B r).length → BST D1 ok M → M.length + (pl (sg_ B r) - i) ≤ 12 → Fq SBD D D1 → X 2 138 j_X8_builds 2 [some (.ref 104), some (.int (nI r)), some (.int (nI i)), none, none] [] (138, P0, D1) (fun x σ => ∃ (D' : Mem), x = [] ∧ σ = wd D' ∧ (BST D' (ok && alB (ftF (sg_ B r) g) i (pl (sg_ B r) - i)) (M ++ lts (sg_ B r) g i (pl (sg_ B r) - i)) ∧ Fq SBD D D')) := by
  intro m
  induction m with
  | zero =>
    intro i ok M D1 hi hb hM hq
    obtain ⟨hB1, hB2, hB3⟩ := id h
    have hcm := hV.2.1
    have hpl4 := pl_le (sg_ B r)
    have hl4 := sgl_le hV hr
    refine X_iload_n (nx := 3) dX8_builds_2 rfl rfl rfl ?_
    refine X_aload_n (nx := 4) dX8_builds_3 rfl rfl rfl ?_
    refine M_getP (nx := 7) dX8_builds_4 rfl fl_RX8_31 rfl (by first | assumption | rfl | decide | omega) (by first | assumption | rfl | decide | omega) (by first | assumption | rfl | decide | omega) ?_
    refine X_iload_n (nx := 8) dX8_builds_7 rfl rfl rfl ?_
    refine M_ld (a := 112) (L := 10) (nx := 9) dX8_builds_8 rfl (by decide) (by decide) rfl (by decide) (by omega) ((hq 112 r (by unfold SBD; omega)).trans (hB3 r hr).2.2.2.2.1) ?_
    refine X_icmp_ge (tgt := 110) (nx := 12) dX8_builds_9 rfl rfl (fun h9 => ?_) (fun h9 => ?_)
    · skip
      exact Z_retv dX8_builds_110 rfl (by rw [show pl (sg_ B r) - i = 0 by omega]; show BST D1 (ok && true) (M ++ []) ∧ _; rw [Bool.and_true, List.append_nil]; exact ⟨hb, hq⟩)
    · exact absurd h9 (fun q => q (nI_le (by omega) (by omega)))
  | succ m ih =>
    intro i ok M D1 hi hb hM hq
    obtain ⟨hB1, hB2, hB3⟩ := id h
    have hcm := hV.2.1
    have hpl4 := pl_le (sg_ B r)
    have hl4 := sgl_le hV hr
    have hvs := (hV.2.2 r hr).2.1
    have hB9 : RB D1 B (th_ B) K F := h.fq (hq.mono (fun b i q => by unfold SBD at q; unfold SCR; omega))
    have hsv := hvs.2.1 _ (getD_in (show i < (sg_ B r).length by omega))
    have hs40 := sgv_le hsv
    have ht10 := typ_lt hs40
    refine X_iload_n (nx := 3) dX8_builds_2 rfl rfl rfl ?_
    refine X_aload_n (nx := 4) dX8_builds_3 rfl rfl rfl ?_
    refine M_getP (nx := 7) dX8_builds_4 rfl fl_RX8_31 rfl (by first | assumption | rfl | decide | omega) (by first | assumption | rfl | decide | omega) (by first | assumption | rfl | decide | omega) ?_
    refine X_iload_n (nx := 8) dX8_builds_7 rfl rfl rfl ?_
    refine M_ld (a := 112) (L := 10) (nx := 9) dX8_builds_8 rfl (by decide) (by decide) rfl (by decide) (by omega) ((hq 112 r (by unfold SBD; omega)).trans (hB3 r hr).2.2.2.2.1) ?_
    refine X_icmp_ge (tgt := 110) (nx := 12) dX8_builds_9 rfl rfl (fun h9 => ?_) (fun h9 => ?_)
    · exact absurd h9 (nI_ge (by omega) (by omega))
    · skip
      refine X_aload_n (nx := 13) dX8_builds_12 rfl rfl rfl ?_
      refine X_iload_n (nx := 14) dX8_builds_13 rfl rfl rfl ?_
      refine X_iload_n (nx := 15) dX8_builds_14 rfl rfl rfl ?_
      refine Y_Vi2 (nx := 18) dX8_builds_15 rfl ml_RX8_119 kj_X8_typeOf kv_X8_typeOf (sp_X8_typeOf hB9 hV rfl hr rfl (by omega)) (by first | assumption | rfl | decide | omega) (by first | assumption | rfl | decide | omega) (by decide) rfl (by first | decide | omega) (by exact Nat.le_of_ble_eq_true rfl) ?_
      refine X_istore_n (i := 3) (nx := 19) dX8_builds_18 rfl rfl (by decide) rfl (st_s (st_s (st_s (st_0)))) ?_
      refine X_iload_n (nx := 20) dX8_builds_19 rfl rfl rfl ?_
      refine X_bipush (v := nI 7) (nx := 22) dX8_builds_20 rfl rfl ?_
      refine X_icmp_ne (tgt := 28) (nx := 25) dX8_builds_22 rfl rfl (fun h22 => ?_) (fun h22 => ?_)
      · skip
        rw [nI_eq (by omega) (by omega), typ_7 hsv] at h22
        have hip : i < pl (sg_ B r) := by
          rcases VS_cut hvs with q | ⟨q, q2⟩
          · omega
          · exact Nat.not_le.mp (fun w => h22 (by rw [show i = pl (sg_ B r) by omega]; exact q2))
        have ht7 := typ_l7 hsv h22
        have hly := lyl_t (g := g) hsv h22
        have hll := lyl_lt (g := g) hvs hip (fun k hk => (hg k hk).2)
        refine X_iload_n (nx := 29) dX8_builds_28 rfl rfl rfl ?_
        refine X_iconst (v := nI 4) (nx := 30) dX8_builds_29 rfl rfl ?_
        refine X_icmp_ge (tgt := 37) (nx := 33) dX8_builds_30 rfl rfl (fun h30 => ?_) (fun h30 => ?_)
        · skip
          rw [nI_leI (by omega) (by omega)] at h30
          have hl2 := hly.2 (by omega)
          refine X_aload_n (nx := 38) dX8_builds_37 rfl rfl rfl ?_
          refine M_getP (nx := 41) dX8_builds_38 rfl fl_RX8_94 rfl (by first | assumption | rfl | decide | omega) (by first | assumption | rfl | decide | omega) (by first | assumption | rfl | decide | omega) ?_
          refine X_aload_n (nx := 42) dX8_builds_41 rfl rfl rfl ?_
          refine M_getP (nx := 45) dX8_builds_42 rfl fl_RX8_34 rfl (by first | assumption | rfl | decide | omega) (by first | assumption | rfl | decide | omega) (by first | assumption | rfl | decide | omega) ?_
          refine X_iconst (v := nI 4) (nx := 46) dX8_builds_45 rfl rfl ?_
          refine X_iload_n (nx := 47) dX8_builds_46 rfl rfl rfl ?_
          refine X_imul (nx := 48) dX8_builds_47 rfl ?_
          refine X_top (mul_nI) ?_
          refine X_iload_n (nx := 49) dX8_builds_48 rfl rfl rfl ?_
          refine X_iadd (nx := 50) dX8_builds_49 rfl ?_
          refine X_top (nI_add _ _) ?_
          refine M_ld (a := 113) (L := 40) (nx := 51) dX8_builds_50 rfl (by decide) (by decide) rfl (by decide) (by omega) ((hq 113 _ (by unfold SBD; omega)).trans ((hB3 r hr).2.2.2.2.2 i (by omega))) ?_
          refine X_bipush (v := nI 10) (nx := 53) dX8_builds_51 rfl rfl ?_
          refine X_irem (nx := 54) dX8_builds_53 rfl (by decide) ?_
          refine X_top (rem10 (by omega)) ?_
          refine M_ld (a := 133) (L := 4) (nx := 55) dX8_builds_54 rfl (by decide) (by decide) rfl (by decide) (by omega) ((hq 133 _ (by unfold SBD; omega)).trans (hg _ (by omega)).1) ?_
          refine X_top (show _ = nI (lyl (sg_ B r) g i) from (by rw [hl2.2])) ?_
          refine X_istore (i := 4) (nx := 57) dX8_builds_55 rfl (by decide) rfl (st_s (st_s (st_s (st_s (st_0))))) ?_
          refine X_aload_n (nx := 58) dX8_builds_57 rfl rfl rfl ?_
          refine X_aload_n (nx := 59) dX8_builds_58 rfl rfl rfl ?_
          refine M_getI (nx := 62) dX8_builds_59 rfl fl_RX8_341 rfl (by first | assumption | rfl | decide | omega) (by first | assumption | rfl | decide | omega) ?_
          refine X_top (hb.1) ?_
          refine X_if_eq (tgt := 79) (nx := 65) dX8_builds_62 rfl rfl (fun h62 => ?_) (fun h62 => ?_)
          · skip
            refine X_iconst (v := 0) (nx := 80) dX8_builds_79 rfl rfl ?_
            refine M_putZ (nx := 83) dX8_builds_80 rfl fl_RX8_341 rfl rfl (by first | exact Or.inl rfl | exact Or.inr rfl) (by first | assumption | rfl | decide | omega) (by first | assumption | rfl | decide | omega) ?_
            refine X_aload_n (nx := 84) dX8_builds_83 rfl rfl rfl ?_
            refine M_getP (nx := 87) dX8_builds_84 rfl fl_RX8_97 rfl (by first | assumption | rfl | decide | omega) (by first | assumption | rfl | decide | omega) (by first | assumption | rfl | decide | omega) ?_
            refine X_aload_n (nx := 88) dX8_builds_87 rfl rfl rfl ?_
            refine M_getI (nx := 91) dX8_builds_88 rfl fl_RX8_344 rfl (by first | assumption | rfl | decide | omega) (by first | assumption | rfl | decide | omega) ?_
            refine X_top ((up2_other (by omega)).trans hb.2.1) ?_
            refine X_iload (nx := 93) dX8_builds_91 rfl rfl ?_
            refine M_st (a := 134) (L := 16) (nx := 94) dX8_builds_93 rfl (by decide) (by decide) rfl (by decide) (by have := hb.2.2.2.1; omega) ?_
            refine X_aload_n (nx := 95) dX8_builds_94 rfl rfl rfl ?_
            refine X_dup (nx := 96) dX8_builds_95 rfl rfl ?_
            refine M_getI (nx := 99) dX8_builds_96 rfl fl_RX8_344 rfl (by first | assumption | rfl | decide | omega) (by first | assumption | rfl | decide | omega) ?_
            refine X_top ((up2_other (by omega)).trans ((up2_other (by omega)).trans hb.2.1)) ?_
            refine X_iconst (v := 1) (nx := 100) dX8_builds_99 rfl rfl ?_
            refine X_iadd (nx := 101) dX8_builds_100 rfl ?_
            refine X_top (nI_1 _) ?_
            refine M_putI (nx := 104) dX8_builds_101 rfl fl_RX8_344 rfl rfl (by first | assumption | rfl | decide | omega) (by first | assumption | rfl | decide | omega) ?_
            refine X_iinc (nx := 107) dX8_builds_104 rfl (by decide) rfl (ii1 _) rfl (st_s (st_s (st_0))) ?_
            refine X_goto (tgt := 2) dX8_builds_107 rfl ?_
            refine X_fgb ?_
            first
            | (have e := ih (i + 1) ok M D1 (by omega) hb (by omega) hq
               rw [show pl (sg_ B r) - (i + 1) = pl (sg_ B r) - i by omega, show pl (sg_ B r) - i = 0 by omega] at e
               rw [show pl (sg_ B r) - i = 0 by omega]
               exact e)
            | (have hb2 := hb.add (f := ftF (sg_ B r) g i) (l := lyl (sg_ B r) g i) (x := 0) (by first | (rw [b2i_f.mp h62]; rfl) | (rw [show ftF (sg_ B r) g i = false from b2i_f.mp h72, Bool.and_false]; rfl)) hll.1 (by omega)
               have e := ih (i + 1) _ _ _ (by omega) hb2 (by rw [List.length_append, List.length_singleton]; omega) (hq.tr (((Fq.up (by unfold SBD; omega)).tr (Fq.up (by unfold SBD; omega))).tr (Fq.up (by unfold SBD; omega))))
               rw [show pl (sg_ B r) - i = (pl (sg_ B r) - (i + 1)) + 1 by omega, show alB (ftF (sg_ B r) g) i (pl (sg_ B r) - (i + 1) + 1) = (ftF (sg_ B r) g i && alB (ftF (sg_ B r) g) (i + 1) (pl (sg_ B r) - (i + 1))) from rfl, ← Bool.and_assoc, show lts (sg_ B r) g i (pl (sg_ B r) - (i + 1) + 1) = [lyl (sg_ B r) g i] ++ lts (sg_ B r) g (i + 1) (pl (sg_ B r) - (i + 1)) from rfl, ← List.append_assoc]
               exact e)
            | (have hb2 := hb.add (f := ftF (sg_ B r) g i) (l := lyl (sg_ B r) g i) (x := 1) (by rw [b2i_t.mp h62, show ftF (sg_ B r) g i = true from b2i_t.mp h72]; rfl) hll.1 (by omega)
               have e := ih (i + 1) _ _ _ (by omega) hb2 (by rw [List.length_append, List.length_singleton]; omega) (hq.tr (((Fq.up (by unfold SBD; omega)).tr (Fq.up (by unfold SBD; omega))).tr (Fq.up (by unfold SBD; omega))))
               rw [show pl (sg_ B r) - i = (pl (sg_ B r) - (i + 1)) + 1 by omega, show alB (ftF (sg_ B r) g) i (pl (sg_ B r) - (i + 1) + 1) = (ftF (sg_ B r) g i && alB (ftF (sg_ B r) g) (i + 1) (pl (sg_ B r) - (i + 1))) from rfl, ← Bool.and_assoc, show lts (sg_ B r) g i (pl (sg_ B r) - (i + 1) + 1) = [lyl (sg_ B r) g i] ++ lts (sg_ B r) g (i + 1) (pl (sg_ B r) - (i + 1)) from rfl, ← List.append_assoc]
               exact e)
          · skip
            refine X_aload_n (nx := 66) dX8_builds_65 rfl rfl rfl ?_
            refine X_iload_n (nx := 67) dX8_builds_66 rfl rfl rfl ?_
            refine X_iload (nx := 69) dX8_builds_67 rfl rfl ?_
            refine Y_Vi2 (nx := 72) dX8_builds_69 rfl ml_RX8_332 kj_X8_takesLetter kv_X8_takesLetter (sp_X8_takesLetter rfl ht7 rfl hll.1) (by first | assumption | rfl | decide | omega) (by first | assumption | rfl | decide | omega) (by decide) rfl (by first | decide | omega) (by exact Nat.le_of_ble_eq_true rfl) ?_
            refine X_if_eq (tgt := 79) (nx := 75) dX8_builds_72 rfl rfl (fun h72 => ?_) (fun h72 => ?_)
            · skip
              refine X_iconst (v := 0) (nx := 80) dX8_builds_79 rfl rfl ?_
              refine M_putZ (nx := 83) dX8_builds_80 rfl fl_RX8_341 rfl rfl (by first | exact Or.inl rfl | exact Or.inr rfl) (by first | assumption | rfl | decide | omega) (by first | assumption | rfl | decide | omega) ?_
              refine X_aload_n (nx := 84) dX8_builds_83 rfl rfl rfl ?_
              refine M_getP (nx := 87) dX8_builds_84 rfl fl_RX8_97 rfl (by first | assumption | rfl | decide | omega) (by first | assumption | rfl | decide | omega) (by first | assumption | rfl | decide | omega) ?_
              refine X_aload_n (nx := 88) dX8_builds_87 rfl rfl rfl ?_
              refine M_getI (nx := 91) dX8_builds_88 rfl fl_RX8_344 rfl (by first | assumption | rfl | decide | omega) (by first | assumption | rfl | decide | omega) ?_
              refine X_top ((up2_other (by omega)).trans hb.2.1) ?_
              refine X_iload (nx := 93) dX8_builds_91 rfl rfl ?_
              refine M_st (a := 134) (L := 16) (nx := 94) dX8_builds_93 rfl (by decide) (by decide) rfl (by decide) (by have := hb.2.2.2.1; omega) ?_
              refine X_aload_n (nx := 95) dX8_builds_94 rfl rfl rfl ?_
              refine X_dup (nx := 96) dX8_builds_95 rfl rfl ?_
              refine M_getI (nx := 99) dX8_builds_96 rfl fl_RX8_344 rfl (by first | assumption | rfl | decide | omega) (by first | assumption | rfl | decide | omega) ?_
              refine X_top ((up2_other (by omega)).trans ((up2_other (by omega)).trans hb.2.1)) ?_
              refine X_iconst (v := 1) (nx := 100) dX8_builds_99 rfl rfl ?_
              refine X_iadd (nx := 101) dX8_builds_100 rfl ?_
              refine X_top (nI_1 _) ?_
              refine M_putI (nx := 104) dX8_builds_101 rfl fl_RX8_344 rfl rfl (by first | assumption | rfl | decide | omega) (by first | assumption | rfl | decide | omega) ?_
              refine X_iinc (nx := 107) dX8_builds_104 rfl (by decide) rfl (ii1 _) rfl (st_s (st_s (st_0))) ?_
              refine X_goto (tgt := 2) dX8_builds_107 rfl ?_
              refine X_fgb ?_
              first
              | (have e := ih (i + 1) ok M D1 (by omega) hb (by omega) hq
                 rw [show pl (sg_ B r) - (i + 1) = pl (sg_ B r) - i by omega, show pl (sg_ B r) - i = 0 by omega] at e
                 rw [show pl (sg_ B r) - i = 0 by omega]
                 exact e)
              | (have hb2 := hb.add (f := ftF (sg_ B r) g i) (l := lyl (sg_ B r) g i) (x := 0) (by first | (rw [b2i_f.mp h62]; rfl) | (rw [show ftF (sg_ B r) g i = false from b2i_f.mp h72, Bool.and_false]; rfl)) hll.1 (by omega)
                 have e := ih (i + 1) _ _ _ (by omega) hb2 (by rw [List.length_append, List.length_singleton]; omega) (hq.tr (((Fq.up (by unfold SBD; omega)).tr (Fq.up (by unfold SBD; omega))).tr (Fq.up (by unfold SBD; omega))))
                 rw [show pl (sg_ B r) - i = (pl (sg_ B r) - (i + 1)) + 1 by omega, show alB (ftF (sg_ B r) g) i (pl (sg_ B r) - (i + 1) + 1) = (ftF (sg_ B r) g i && alB (ftF (sg_ B r) g) (i + 1) (pl (sg_ B r) - (i + 1))) from rfl, ← Bool.and_assoc, show lts (sg_ B r) g i (pl (sg_ B r) - (i + 1) + 1) = [lyl (sg_ B r) g i] ++ lts (sg_ B r) g (i + 1) (pl (sg_ B r) - (i + 1)) from rfl, ← List.append_assoc]
                 exact e)
              | (have hb2 := hb.add (f := ftF (sg_ B r) g i) (l := lyl (sg_ B r) g i) (x := 1) (by rw [b2i_t.mp h62, show ftF (sg_ B r) g i = true from b2i_t.mp h72]; rfl) hll.1 (by omega)
                 have e := ih (i + 1) _ _ _ (by omega) hb2 (by rw [List.length_append, List.length_singleton]; omega) (hq.tr (((Fq.up (by unfold SBD; omega)).tr (Fq.up (by unfold SBD; omega))).tr (Fq.up (by unfold SBD; omega))))
                 rw [show pl (sg_ B r) - i = (pl (sg_ B r) - (i + 1)) + 1 by omega, show alB (ftF (sg_ B r) g) i (pl (sg_ B r) - (i + 1) + 1) = (ftF (sg_ B r) g i && alB (ftF (sg_ B r) g) (i + 1) (pl (sg_ B r) - (i + 1))) from rfl, ← Bool.and_assoc, show lts (sg_ B r) g i (pl (sg_ B r) - (i + 1) + 1) = [lyl (sg_ B r) g i] ++ lts (sg_ B r) g (i + 1) (pl (sg_ B r) - (i + 1)) from rfl, ← List.append_assoc]
                 exact e)
            · skip
              refine X_iconst (v := 1) (nx := 76) dX8_builds_75 rfl rfl ?_
              refine X_goto (tgt := 80) dX8_builds_76 rfl ?_
              refine M_putZ (nx := 83) dX8_builds_80 rfl fl_RX8_341 rfl rfl (by first | exact Or.inl rfl | exact Or.inr rfl) (by first | assumption | rfl | decide | omega) (by first | assumption | rfl | decide | omega) ?_
              refine X_aload_n (nx := 84) dX8_builds_83 rfl rfl rfl ?_
              refine M_getP (nx := 87) dX8_builds_84 rfl fl_RX8_97 rfl (by first | assumption | rfl | decide | omega) (by first | assumption | rfl | decide | omega) (by first | assumption | rfl | decide | omega) ?_
              refine X_aload_n (nx := 88) dX8_builds_87 rfl rfl rfl ?_
              refine M_getI (nx := 91) dX8_builds_88 rfl fl_RX8_344 rfl (by first | assumption | rfl | decide | omega) (by first | assumption | rfl | decide | omega) ?_
              refine X_top ((up2_other (by omega)).trans hb.2.1) ?_
              refine X_iload (nx := 93) dX8_builds_91 rfl rfl ?_
              refine M_st (a := 134) (L := 16) (nx := 94) dX8_builds_93 rfl (by decide) (by decide) rfl (by decide) (by have := hb.2.2.2.1; omega) ?_
              refine X_aload_n (nx := 95) dX8_builds_94 rfl rfl rfl ?_
              refine X_dup (nx := 96) dX8_builds_95 rfl rfl ?_
              refine M_getI (nx := 99) dX8_builds_96 rfl fl_RX8_344 rfl (by first | assumption | rfl | decide | omega) (by first | assumption | rfl | decide | omega) ?_
              refine X_top ((up2_other (by omega)).trans ((up2_other (by omega)).trans hb.2.1)) ?_
              refine X_iconst (v := 1) (nx := 100) dX8_builds_99 rfl rfl ?_
              refine X_iadd (nx := 101) dX8_builds_100 rfl ?_
              refine X_top (nI_1 _) ?_
              refine M_putI (nx := 104) dX8_builds_101 rfl fl_RX8_344 rfl rfl (by first | assumption | rfl | decide | omega) (by first | assumption | rfl | decide | omega) ?_
              refine X_iinc (nx := 107) dX8_builds_104 rfl (by decide) rfl (ii1 _) rfl (st_s (st_s (st_0))) ?_
              refine X_goto (tgt := 2) dX8_builds_107 rfl ?_
              refine X_fgb ?_
              first
              | (have e := ih (i + 1) ok M D1 (by omega) hb (by omega) hq
                 rw [show pl (sg_ B r) - (i + 1) = pl (sg_ B r) - i by omega, show pl (sg_ B r) - i = 0 by omega] at e
                 rw [show pl (sg_ B r) - i = 0 by omega]
                 exact e)
              | (have hb2 := hb.add (f := ftF (sg_ B r) g i) (l := lyl (sg_ B r) g i) (x := 0) (by first | (rw [b2i_f.mp h62]; rfl) | (rw [show ftF (sg_ B r) g i = false from b2i_f.mp h72, Bool.and_false]; rfl)) hll.1 (by omega)
                 have e := ih (i + 1) _ _ _ (by omega) hb2 (by rw [List.length_append, List.length_singleton]; omega) (hq.tr (((Fq.up (by unfold SBD; omega)).tr (Fq.up (by unfold SBD; omega))).tr (Fq.up (by unfold SBD; omega))))
                 rw [show pl (sg_ B r) - i = (pl (sg_ B r) - (i + 1)) + 1 by omega, show alB (ftF (sg_ B r) g) i (pl (sg_ B r) - (i + 1) + 1) = (ftF (sg_ B r) g i && alB (ftF (sg_ B r) g) (i + 1) (pl (sg_ B r) - (i + 1))) from rfl, ← Bool.and_assoc, show lts (sg_ B r) g i (pl (sg_ B r) - (i + 1) + 1) = [lyl (sg_ B r) g i] ++ lts (sg_ B r) g (i + 1) (pl (sg_ B r) - (i + 1)) from rfl, ← List.append_assoc]
                 exact e)
              | (have hb2 := hb.add (f := ftF (sg_ B r) g i) (l := lyl (sg_ B r) g i) (x := 1) (by rw [b2i_t.mp h62, show ftF (sg_ B r) g i = true from b2i_t.mp h72]; rfl) hll.1 (by omega)
                 have e := ih (i + 1) _ _ _ (by omega) hb2 (by rw [List.length_append, List.length_singleton]; omega) (hq.tr (((Fq.up (by unfold SBD; omega)).tr (Fq.up (by unfold SBD; omega))).tr (Fq.up (by unfold SBD; omega))))
                 rw [show pl (sg_ B r) - i = (pl (sg_ B r) - (i + 1)) + 1 by omega, show alB (ftF (sg_ B r) g) i (pl (sg_ B r) - (i + 1) + 1) = (ftF (sg_ B r) g i && alB (ftF (sg_ B r) g) (i + 1) (pl (sg_ B r) - (i + 1))) from rfl, ← Bool.and_assoc, show lts (sg_ B r) g i (pl (sg_ B r) - (i + 1) + 1) = [lyl (sg_ B r) g i] ++ lts (sg_ B r) g (i + 1) (pl (sg_ B r) - (i + 1)) from rfl, ← List.append_assoc]
                 exact e)
        · skip
          rw [nI_leI (by omega) (by omega)] at h30
          refine X_iload_n (nx := 34) dX8_builds_33 rfl rfl rfl ?_
          refine X_top (show _ = nI (lyl (sg_ B r) g i) from hly.1 (by omega)) ?_
          refine X_goto (tgt := 55) dX8_builds_34 rfl ?_
          refine X_istore (i := 4) (nx := 57) dX8_builds_55 rfl (by decide) rfl (st_s (st_s (st_s (st_s (st_0))))) ?_
          refine X_aload_n (nx := 58) dX8_builds_57 rfl rfl rfl ?_
          refine X_aload_n (nx := 59) dX8_builds_58 rfl rfl rfl ?_
          refine M_getI (nx := 62) dX8_builds_59 rfl fl_RX8_341 rfl (by first | assumption | rfl | decide | omega) (by first | assumption | rfl | decide | omega) ?_
          refine X_top (hb.1) ?_
          refine X_if_eq (tgt := 79) (nx := 65) dX8_builds_62 rfl rfl (fun h62 => ?_) (fun h62 => ?_)
          · skip
            refine X_iconst (v := 0) (nx := 80) dX8_builds_79 rfl rfl ?_
            refine M_putZ (nx := 83) dX8_builds_80 rfl fl_RX8_341 rfl rfl (by first | exact Or.inl rfl | exact Or.inr rfl) (by first | assumption | rfl | decide | omega) (by first | assumption | rfl | decide | omega) ?_
            refine X_aload_n (nx := 84) dX8_builds_83 rfl rfl rfl ?_
            refine M_getP (nx := 87) dX8_builds_84 rfl fl_RX8_97 rfl (by first | assumption | rfl | decide | omega) (by first | assumption | rfl | decide | omega) (by first | assumption | rfl | decide | omega) ?_
            refine X_aload_n (nx := 88) dX8_builds_87 rfl rfl rfl ?_
            refine M_getI (nx := 91) dX8_builds_88 rfl fl_RX8_344 rfl (by first | assumption | rfl | decide | omega) (by first | assumption | rfl | decide | omega) ?_
            refine X_top ((up2_other (by omega)).trans hb.2.1) ?_
            refine X_iload (nx := 93) dX8_builds_91 rfl rfl ?_
            refine M_st (a := 134) (L := 16) (nx := 94) dX8_builds_93 rfl (by decide) (by decide) rfl (by decide) (by have := hb.2.2.2.1; omega) ?_
            refine X_aload_n (nx := 95) dX8_builds_94 rfl rfl rfl ?_
            refine X_dup (nx := 96) dX8_builds_95 rfl rfl ?_
            refine M_getI (nx := 99) dX8_builds_96 rfl fl_RX8_344 rfl (by first | assumption | rfl | decide | omega) (by first | assumption | rfl | decide | omega) ?_
            refine X_top ((up2_other (by omega)).trans ((up2_other (by omega)).trans hb.2.1)) ?_
            refine X_iconst (v := 1) (nx := 100) dX8_builds_99 rfl rfl ?_
            refine X_iadd (nx := 101) dX8_builds_100 rfl ?_
            refine X_top (nI_1 _) ?_
            refine M_putI (nx := 104) dX8_builds_101 rfl fl_RX8_344 rfl rfl (by first | assumption | rfl | decide | omega) (by first | assumption | rfl | decide | omega) ?_
            refine X_iinc (nx := 107) dX8_builds_104 rfl (by decide) rfl (ii1 _) rfl (st_s (st_s (st_0))) ?_
            refine X_goto (tgt := 2) dX8_builds_107 rfl ?_
            refine X_fgb ?_
            first
            | (have e := ih (i + 1) ok M D1 (by omega) hb (by omega) hq
               rw [show pl (sg_ B r) - (i + 1) = pl (sg_ B r) - i by omega, show pl (sg_ B r) - i = 0 by omega] at e
               rw [show pl (sg_ B r) - i = 0 by omega]
               exact e)
            | (have hb2 := hb.add (f := ftF (sg_ B r) g i) (l := lyl (sg_ B r) g i) (x := 0) (by first | (rw [b2i_f.mp h62]; rfl) | (rw [show ftF (sg_ B r) g i = false from b2i_f.mp h72, Bool.and_false]; rfl)) hll.1 (by omega)
               have e := ih (i + 1) _ _ _ (by omega) hb2 (by rw [List.length_append, List.length_singleton]; omega) (hq.tr (((Fq.up (by unfold SBD; omega)).tr (Fq.up (by unfold SBD; omega))).tr (Fq.up (by unfold SBD; omega))))
               rw [show pl (sg_ B r) - i = (pl (sg_ B r) - (i + 1)) + 1 by omega, show alB (ftF (sg_ B r) g) i (pl (sg_ B r) - (i + 1) + 1) = (ftF (sg_ B r) g i && alB (ftF (sg_ B r) g) (i + 1) (pl (sg_ B r) - (i + 1))) from rfl, ← Bool.and_assoc, show lts (sg_ B r) g i (pl (sg_ B r) - (i + 1) + 1) = [lyl (sg_ B r) g i] ++ lts (sg_ B r) g (i + 1) (pl (sg_ B r) - (i + 1)) from rfl, ← List.append_assoc]
               exact e)
            | (have hb2 := hb.add (f := ftF (sg_ B r) g i) (l := lyl (sg_ B r) g i) (x := 1) (by rw [b2i_t.mp h62, show ftF (sg_ B r) g i = true from b2i_t.mp h72]; rfl) hll.1 (by omega)
               have e := ih (i + 1) _ _ _ (by omega) hb2 (by rw [List.length_append, List.length_singleton]; omega) (hq.tr (((Fq.up (by unfold SBD; omega)).tr (Fq.up (by unfold SBD; omega))).tr (Fq.up (by unfold SBD; omega))))
               rw [show pl (sg_ B r) - i = (pl (sg_ B r) - (i + 1)) + 1 by omega, show alB (ftF (sg_ B r) g) i (pl (sg_ B r) - (i + 1) + 1) = (ftF (sg_ B r) g i && alB (ftF (sg_ B r) g) (i + 1) (pl (sg_ B r) - (i + 1))) from rfl, ← Bool.and_assoc, show lts (sg_ B r) g i (pl (sg_ B r) - (i + 1) + 1) = [lyl (sg_ B r) g i] ++ lts (sg_ B r) g (i + 1) (pl (sg_ B r) - (i + 1)) from rfl, ← List.append_assoc]
               exact e)
          · skip
            refine X_aload_n (nx := 66) dX8_builds_65 rfl rfl rfl ?_
            refine X_iload_n (nx := 67) dX8_builds_66 rfl rfl rfl ?_
            refine X_iload (nx := 69) dX8_builds_67 rfl rfl ?_
            refine Y_Vi2 (nx := 72) dX8_builds_69 rfl ml_RX8_332 kj_X8_takesLetter kv_X8_takesLetter (sp_X8_takesLetter rfl ht7 rfl hll.1) (by first | assumption | rfl | decide | omega) (by first | assumption | rfl | decide | omega) (by decide) rfl (by first | decide | omega) (by exact Nat.le_of_ble_eq_true rfl) ?_
            refine X_if_eq (tgt := 79) (nx := 75) dX8_builds_72 rfl rfl (fun h72 => ?_) (fun h72 => ?_)
            · skip
              refine X_iconst (v := 0) (nx := 80) dX8_builds_79 rfl rfl ?_
              refine M_putZ (nx := 83) dX8_builds_80 rfl fl_RX8_341 rfl rfl (by first | exact Or.inl rfl | exact Or.inr rfl) (by first | assumption | rfl | decide | omega) (by first | assumption | rfl | decide | omega) ?_
              refine X_aload_n (nx := 84) dX8_builds_83 rfl rfl rfl ?_
              refine M_getP (nx := 87) dX8_builds_84 rfl fl_RX8_97 rfl (by first | assumption | rfl | decide | omega) (by first | assumption | rfl | decide | omega) (by first | assumption | rfl | decide | omega) ?_
              refine X_aload_n (nx := 88) dX8_builds_87 rfl rfl rfl ?_
              refine M_getI (nx := 91) dX8_builds_88 rfl fl_RX8_344 rfl (by first | assumption | rfl | decide | omega) (by first | assumption | rfl | decide | omega) ?_
              refine X_top ((up2_other (by omega)).trans hb.2.1) ?_
              refine X_iload (nx := 93) dX8_builds_91 rfl rfl ?_
              refine M_st (a := 134) (L := 16) (nx := 94) dX8_builds_93 rfl (by decide) (by decide) rfl (by decide) (by have := hb.2.2.2.1; omega) ?_
              refine X_aload_n (nx := 95) dX8_builds_94 rfl rfl rfl ?_
              refine X_dup (nx := 96) dX8_builds_95 rfl rfl ?_
              refine M_getI (nx := 99) dX8_builds_96 rfl fl_RX8_344 rfl (by first | assumption | rfl | decide | omega) (by first | assumption | rfl | decide | omega) ?_
              refine X_top ((up2_other (by omega)).trans ((up2_other (by omega)).trans hb.2.1)) ?_
              refine X_iconst (v := 1) (nx := 100) dX8_builds_99 rfl rfl ?_
              refine X_iadd (nx := 101) dX8_builds_100 rfl ?_
              refine X_top (nI_1 _) ?_
              refine M_putI (nx := 104) dX8_builds_101 rfl fl_RX8_344 rfl rfl (by first | assumption | rfl | decide | omega) (by first | assumption | rfl | decide | omega) ?_
              refine X_iinc (nx := 107) dX8_builds_104 rfl (by decide) rfl (ii1 _) rfl (st_s (st_s (st_0))) ?_
              refine X_goto (tgt := 2) dX8_builds_107 rfl ?_
              refine X_fgb ?_
              first
              | (have e := ih (i + 1) ok M D1 (by omega) hb (by omega) hq
                 rw [show pl (sg_ B r) - (i + 1) = pl (sg_ B r) - i by omega, show pl (sg_ B r) - i = 0 by omega] at e
                 rw [show pl (sg_ B r) - i = 0 by omega]
                 exact e)
              | (have hb2 := hb.add (f := ftF (sg_ B r) g i) (l := lyl (sg_ B r) g i) (x := 0) (by first | (rw [b2i_f.mp h62]; rfl) | (rw [show ftF (sg_ B r) g i = false from b2i_f.mp h72, Bool.and_false]; rfl)) hll.1 (by omega)
                 have e := ih (i + 1) _ _ _ (by omega) hb2 (by rw [List.length_append, List.length_singleton]; omega) (hq.tr (((Fq.up (by unfold SBD; omega)).tr (Fq.up (by unfold SBD; omega))).tr (Fq.up (by unfold SBD; omega))))
                 rw [show pl (sg_ B r) - i = (pl (sg_ B r) - (i + 1)) + 1 by omega, show alB (ftF (sg_ B r) g) i (pl (sg_ B r) - (i + 1) + 1) = (ftF (sg_ B r) g i && alB (ftF (sg_ B r) g) (i + 1) (pl (sg_ B r) - (i + 1))) from rfl, ← Bool.and_assoc, show lts (sg_ B r) g i (pl (sg_ B r) - (i + 1) + 1) = [lyl (sg_ B r) g i] ++ lts (sg_ B r) g (i + 1) (pl (sg_ B r) - (i + 1)) from rfl, ← List.append_assoc]
                 exact e)
              | (have hb2 := hb.add (f := ftF (sg_ B r) g i) (l := lyl (sg_ B r) g i) (x := 1) (by rw [b2i_t.mp h62, show ftF (sg_ B r) g i = true from b2i_t.mp h72]; rfl) hll.1 (by omega)
                 have e := ih (i + 1) _ _ _ (by omega) hb2 (by rw [List.length_append, List.length_singleton]; omega) (hq.tr (((Fq.up (by unfold SBD; omega)).tr (Fq.up (by unfold SBD; omega))).tr (Fq.up (by unfold SBD; omega))))
                 rw [show pl (sg_ B r) - i = (pl (sg_ B r) - (i + 1)) + 1 by omega, show alB (ftF (sg_ B r) g) i (pl (sg_ B r) - (i + 1) + 1) = (ftF (sg_ B r) g i && alB (ftF (sg_ B r) g) (i + 1) (pl (sg_ B r) - (i + 1))) from rfl, ← Bool.and_assoc, show lts (sg_ B r) g i (pl (sg_ B r) - (i + 1) + 1) = [lyl (sg_ B r) g i] ++ lts (sg_ B r) g (i + 1) (pl (sg_ B r) - (i + 1)) from rfl, ← List.append_assoc]
                 exact e)
            · skip
              refine X_iconst (v := 1) (nx := 76) dX8_builds_75 rfl rfl ?_
              refine X_goto (tgt := 80) dX8_builds_76 rfl ?_
              refine M_putZ (nx := 83) dX8_builds_80 rfl fl_RX8_341 rfl rfl (by first | exact Or.inl rfl | exact Or.inr rfl) (by first | assumption | rfl | decide | omega) (by first | assumption | rfl | decide | omega) ?_
              refine X_aload_n (nx := 84) dX8_builds_83 rfl rfl rfl ?_
              refine M_getP (nx := 87) dX8_builds_84 rfl fl_RX8_97 rfl (by first | assumption | rfl | decide | omega) (by first | assumption | rfl | decide | omega) (by first | assumption | rfl | decide | omega) ?_
              refine X_aload_n (nx := 88) dX8_builds_87 rfl rfl rfl ?_
              refine M_getI (nx := 91) dX8_builds_88 rfl fl_RX8_344 rfl (by first | assumption | rfl | decide | omega) (by first | assumption | rfl | decide | omega) ?_
              refine X_top ((up2_other (by omega)).trans hb.2.1) ?_
              refine X_iload (nx := 93) dX8_builds_91 rfl rfl ?_
              refine M_st (a := 134) (L := 16) (nx := 94) dX8_builds_93 rfl (by decide) (by decide) rfl (by decide) (by have := hb.2.2.2.1; omega) ?_
              refine X_aload_n (nx := 95) dX8_builds_94 rfl rfl rfl ?_
              refine X_dup (nx := 96) dX8_builds_95 rfl rfl ?_
              refine M_getI (nx := 99) dX8_builds_96 rfl fl_RX8_344 rfl (by first | assumption | rfl | decide | omega) (by first | assumption | rfl | decide | omega) ?_
              refine X_top ((up2_other (by omega)).trans ((up2_other (by omega)).trans hb.2.1)) ?_
              refine X_iconst (v := 1) (nx := 100) dX8_builds_99 rfl rfl ?_
              refine X_iadd (nx := 101) dX8_builds_100 rfl ?_
              refine X_top (nI_1 _) ?_
              refine M_putI (nx := 104) dX8_builds_101 rfl fl_RX8_344 rfl rfl (by first | assumption | rfl | decide | omega) (by first | assumption | rfl | decide | omega) ?_
              refine X_iinc (nx := 107) dX8_builds_104 rfl (by decide) rfl (ii1 _) rfl (st_s (st_s (st_0))) ?_
              refine X_goto (tgt := 2) dX8_builds_107 rfl ?_
              refine X_fgb ?_
              first
              | (have e := ih (i + 1) ok M D1 (by omega) hb (by omega) hq
                 rw [show pl (sg_ B r) - (i + 1) = pl (sg_ B r) - i by omega, show pl (sg_ B r) - i = 0 by omega] at e
                 rw [show pl (sg_ B r) - i = 0 by omega]
                 exact e)
              | (have hb2 := hb.add (f := ftF (sg_ B r) g i) (l := lyl (sg_ B r) g i) (x := 0) (by first | (rw [b2i_f.mp h62]; rfl) | (rw [show ftF (sg_ B r) g i = false from b2i_f.mp h72, Bool.and_false]; rfl)) hll.1 (by omega)
                 have e := ih (i + 1) _ _ _ (by omega) hb2 (by rw [List.length_append, List.length_singleton]; omega) (hq.tr (((Fq.up (by unfold SBD; omega)).tr (Fq.up (by unfold SBD; omega))).tr (Fq.up (by unfold SBD; omega))))
                 rw [show pl (sg_ B r) - i = (pl (sg_ B r) - (i + 1)) + 1 by omega, show alB (ftF (sg_ B r) g) i (pl (sg_ B r) - (i + 1) + 1) = (ftF (sg_ B r) g i && alB (ftF (sg_ B r) g) (i + 1) (pl (sg_ B r) - (i + 1))) from rfl, ← Bool.and_assoc, show lts (sg_ B r) g i (pl (sg_ B r) - (i + 1) + 1) = [lyl (sg_ B r) g i] ++ lts (sg_ B r) g (i + 1) (pl (sg_ B r) - (i + 1)) from rfl, ← List.append_assoc]
                 exact e)
              | (have hb2 := hb.add (f := ftF (sg_ B r) g i) (l := lyl (sg_ B r) g i) (x := 1) (by rw [b2i_t.mp h62, show ftF (sg_ B r) g i = true from b2i_t.mp h72]; rfl) hll.1 (by omega)
                 have e := ih (i + 1) _ _ _ (by omega) hb2 (by rw [List.length_append, List.length_singleton]; omega) (hq.tr (((Fq.up (by unfold SBD; omega)).tr (Fq.up (by unfold SBD; omega))).tr (Fq.up (by unfold SBD; omega))))
                 rw [show pl (sg_ B r) - i = (pl (sg_ B r) - (i + 1)) + 1 by omega, show alB (ftF (sg_ B r) g) i (pl (sg_ B r) - (i + 1) + 1) = (ftF (sg_ B r) g i && alB (ftF (sg_ B r) g) (i + 1) (pl (sg_ B r) - (i + 1))) from rfl, ← Bool.and_assoc, show lts (sg_ B r) g i (pl (sg_ B r) - (i + 1) + 1) = [lyl (sg_ B r) g i] ++ lts (sg_ B r) g (i + 1) (pl (sg_ B r) - (i + 1)) from rfl, ← List.append_assoc]
                 exact e)
      · skip
        rw [nI_eq (by omega) (by omega), typ_7 hsv] at h22
        have hip : pl (sg_ B r) ≤ i := Nat.not_lt.mp (fun w => (hvs.plain w).2 h22)
        refine X_goto (tgt := 104) dX8_builds_25 rfl ?_
        refine X_iinc (nx := 107) dX8_builds_104 rfl (by decide) rfl (ii1 _) rfl (st_s (st_s (st_0))) ?_
        refine X_goto (tgt := 2) dX8_builds_107 rfl ?_
        refine X_fgb ?_
        first
        | (have e := ih (i + 1) ok M D1 (by omega) hb (by omega) hq
           rw [show pl (sg_ B r) - (i + 1) = pl (sg_ B r) - i by omega, show pl (sg_ B r) - i = 0 by omega] at e
           rw [show pl (sg_ B r) - i = 0 by omega]
           exact e)
        | (have hb2 := hb.add (f := ftF (sg_ B r) g i) (l := lyl (sg_ B r) g i) (x := 0) (by first | (rw [b2i_f.mp h62]; rfl) | (rw [show ftF (sg_ B r) g i = false from b2i_f.mp h72, Bool.and_false]; rfl)) hll.1 (by omega)
           have e := ih (i + 1) _ _ _ (by omega) hb2 (by rw [List.length_append, List.length_singleton]; omega) (hq.tr (((Fq.up (by unfold SBD; omega)).tr (Fq.up (by unfold SBD; omega))).tr (Fq.up (by unfold SBD; omega))))
           rw [show pl (sg_ B r) - i = (pl (sg_ B r) - (i + 1)) + 1 by omega, show alB (ftF (sg_ B r) g) i (pl (sg_ B r) - (i + 1) + 1) = (ftF (sg_ B r) g i && alB (ftF (sg_ B r) g) (i + 1) (pl (sg_ B r) - (i + 1))) from rfl, ← Bool.and_assoc, show lts (sg_ B r) g i (pl (sg_ B r) - (i + 1) + 1) = [lyl (sg_ B r) g i] ++ lts (sg_ B r) g (i + 1) (pl (sg_ B r) - (i + 1)) from rfl, ← List.append_assoc]
           exact e)
        | (have hb2 := hb.add (f := ftF (sg_ B r) g i) (l := lyl (sg_ B r) g i) (x := 1) (by rw [b2i_t.mp h62, show ftF (sg_ B r) g i = true from b2i_t.mp h72]; rfl) hll.1 (by omega)
           have e := ih (i + 1) _ _ _ (by omega) hb2 (by rw [List.length_append, List.length_singleton]; omega) (hq.tr (((Fq.up (by unfold SBD; omega)).tr (Fq.up (by unfold SBD; omega))).tr (Fq.up (by unfold SBD; omega))))
           rw [show pl (sg_ B r) - i = (pl (sg_ B r) - (i + 1)) + 1 by omega, show alB (ftF (sg_ B r) g) i (pl (sg_ B r) - (i + 1) + 1) = (ftF (sg_ B r) g i && alB (ftF (sg_ B r) g) (i + 1) (pl (sg_ B r) - (i + 1))) from rfl, ← Bool.and_assoc, show lts (sg_ B r) g i (pl (sg_ B r) - (i + 1) + 1) = [lyl (sg_ B r) g i] ++ lts (sg_ B r) g (i + 1) (pl (sg_ B r) - (i + 1)) from rfl, ← List.append_assoc]
           exact e)
theorem sp_X8_builds {r : Nat} {x : Int32} {g : Nat → Nat} {t : Bool × List Nat} {B : Bk} {K F : Nat → Nat} {D : Mem} (h : RB D B (th_ B) K F) (hV : VB B) (hg : GV2 D g) (hx : x = nI r) (hr : r < cm_ B) (hb : BST D t.1 t.2) (hM : t.2.length ≤ 8) : Rvx 2 j_X8_builds [.ref 104, .int x] D (fun D' => BST D' (bdS B g r t).1 (bdS B g r t).2 ∧ Fq SBD D D') := by
  refine E.start 3 (ls := [some (.ref 104), some (.int x), none, none, none]) (by decide +kernel) (Nat.le_of_ble_eq_true rfl) rfl (Nat.le_refl _) (Nat.le_refl _) ?_
  subst hx
  have hpl4 := pl_le (sg_ B r)
  have hl4 := sgl_le hV hr
  refine X_iconst (v := nI 0) (nx := 1) dX8_builds_0 rfl rfl ?_
  refine X_istore_n (i := 2) (nx := 2) dX8_builds_1 rfl rfl (by decide) rfl (st_s (st_s (st_0))) ?_
  exact lp_X8_builds h hV hg hr (sg_ B r).length 0 t.1 t.2 D (Nat.zero_add _) hb (by omega) Fq.rf
