theorem sp_X5_plant {B : Bk} {nl0 : List Nd} {PS EN RS MN : Nd → Nat → Bool} {SV : Nat → Nat → Bool} {MO : Nat → Bool} {i : Nat} {x : Int32} {r : Nat} {D : Mem} (hE : Enc D 1 B) (hi : i < cm_ B) (ht : thN B i = true) (hV : VR B i) (hl : nl0.length + (es_ B i).length ≤ 43) (hT : TE D B nl0 PS EN RS MN SV MO) (hx : x = nI i) (hr : r = rt 1 i) : Rvx 3 j_X5_plant [.ref 80, .int x, .ref r] D (fun D' => PLT B nl0 PS EN RS MN SV MO i D D') := by
  refine E.start 3 (ls := [some (.ref 80), some (.int x), some (.ref r), none, none, none]) (by decide +kernel) (Nat.le_of_ble_eq_true rfl) rfl (Nat.le_refl _) (Nat.le_refl _) ?_
  subst hx; subst hr
  obtain ⟨⟨b1, b2⟩, ⟨b3, b4, b5, b6⟩, ⟨b7, b8, b9⟩, ⟨c1, c2, c3⟩, ⟨c4, c5, c6⟩, c7, c8⟩ := isB.facts (b := 1) (Or.inl rfl)
  have h3 := hE.2.2.1
  obtain ⟨r1, r2, r3, r4, r5, r6⟩ := (c8 i (by omega)).2.facts
  obtain ⟨x1, x2, x3, x4, x5⟩ := hE.2.2.2 i hi
  have hn3 := hT.2.1.1
  have hro := hV.1
  refine X_aload_n (nx := 1) dX5_plant_0 rfl rfl rfl ?_
  refine M_getI (nx := 4) dX5_plant_1 rfl fl_RX5_84 rfl (by first | assumption | rfl | decide | omega) (by first | assumption | rfl | decide | omega) ?_
  refine X_top (x2) ?_
  refine X_istore_n (i := 3) (nx := 5) dX5_plant_4 rfl rfl (by decide) rfl (st_s (st_s (st_s (st_0)))) ?_
  refine X_iconst (v := 0) (nx := 6) dX5_plant_5 rfl rfl ?_
  refine X_istore (i := 4) (nx := 8) dX5_plant_6 rfl (by decide) rfl (st_s (st_s (st_s (st_s (st_0))))) ?_
  exact lp_plant_s hE hi ht hV hl (es_ B i).length 0 (ro_ B i) D (by omega) Fr.rf (TE.congr hT (fun q r _ => PSk_0 q r) (fun _ _ _ => rfl) (fun _ _ _ => rfl) (fun _ _ _ => rfl) (fun _ _ _ => rfl) (fun _ _ q => q)) (by show ro_ B i < nl0.length; omega) (hT.2.1.2.2.1 _ hV.1)
/-- the roots so far -/
def E0 (D : Mem) (i : Nat) : Prop := D 80 11 = nI i ∧ ∀ j, j < i → D 82 j = nI j ∧ (∀ b, 83 ≤ b → b ≤ 86 → D b j = 0) ∧ (∀ e, e < 7 → D 81 (j * 7 + e) = -9) ∧ D 91 j = -9
def roots : List Nd := [(0, []), (1, []), (2, [])]
theorem E0.step {D : Mem} {i : Nat} (h : E0 D i) (hi : i < 3) : E0 (up2 (anD D i i) 91 i (-9)) (i + 1) := by
  obtain ⟨h1, h2⟩ := h
  refine ⟨?_, fun j hj => ?_⟩
  · rw [up2_other (by omega)]; unfold anD; rw [if_pos ⟨rfl, rfl⟩]
  · by_cases e : j = i
    · subst e
      refine ⟨?_, fun b g1 g2 => ?_, fun e' he' => ?_, up2_same⟩
      · rw [up2_other (by omega)]; unfold anD; rw [if_neg (by omega), if_pos ⟨rfl, rfl⟩]
      · rw [up2_other (by omega)]; unfold anD; rw [if_neg (by omega), if_neg (by omega), if_pos ⟨⟨g1, g2⟩, rfl⟩]
      · rw [up2_other (by omega)]; unfold anD; rw [if_neg (by omega), if_neg (by omega), if_neg (by omega), if_pos ⟨rfl, by omega, by omega⟩]
    · obtain ⟨g1, g2, g3, g4⟩ := h2 j (by omega)
      have o : ∀ b x, ¬ (b = 80 ∧ x = 11) → ¬ (b = 82 ∧ x = i) → ¬ ((83 ≤ b ∧ b ≤ 86) ∧ x = i) → ¬ (b = 81 ∧ i * 7 ≤ x ∧ x < i * 7 + 7) → ¬ (b = 91 ∧ x = i) → up2 (anD D i i) 91 i (-9) b x = D b x := by
        intro b x a1 a2 a3 a4 a5
        rw [up2_other a5]; unfold anD; rw [if_neg a1, if_neg a2, if_neg a3, if_neg a4]
      exact ⟨by rw [o _ _ (by omega) (by omega) (by omega) (by omega) (by omega)]; exact g1, fun b k1 k2 => by rw [o _ _ (by omega) (by omega) (by omega) (by omega) (by omega)]; exact g2 b k1 k2, fun e' he' => by rw [o _ _ (by omega) (by omega) (by omega) (by omega) (by omega)]; exact g3 e' he', by rw [o _ _ (by omega) (by omega) (by omega) (by omega) (by omega)]; exact g4⟩
def ff2 : Nd → Nat → Bool := fun _ _ => false
theorem NL_roots : NL roots := by
  refine ⟨by decide, by decide, by decide, fun i j hi hj h => ?_, fun k hk p e h => ?_⟩
  · have hl : roots.length = 3 := rfl
    rw [hl] at hi hj
    obtain rfl | rfl | rfl : i = 0 ∨ i = 1 ∨ i = 2 := by omega
    all_goals (obtain rfl | rfl | rfl : j = 0 ∨ j = 1 ∨ j = 2 := by omega)
    all_goals first | rfl | exact absurd h (by decide)
  · have hl : roots.length = 3 := rfl
    rw [hl] at hk
    obtain rfl | rfl | rfl : k = 0 ∨ k = 1 ∨ k = 2 := by omega
    all_goals exact absurd h.symm (by show p ++ [e] ≠ []; simp)
theorem nix_roots (q : Nd) (e : Nat) : nix roots (q.1, q.2 ++ [e]) = none := by
  refine fst_intro_none (fun x _ hx => decide_eq_false fun h => ?_)
  have hl : roots.length = 3 := rfl
  rw [hl] at hx
  obtain rfl | rfl | rfl : x = 0 ∨ x = 1 ∨ x = 2 := by omega
  all_goals exact absurd (congrArg Prod.snd h).symm (by show q.2 ++ [e] ≠ []; simp)
theorem E0.te {D : Mem} {B : Bk} (h : E0 D 3) (hs : ∀ v, v < 4 → D 88 v = 0) : TE D B roots ff2 ff2 ff2 ff2 (fun _ _ => false) (fun _ => false) := by
  obtain ⟨h1, h2⟩ := h
  have z : nI (mkn (fun _ => false) 10) = 0 := by decide
  refine ⟨h1, NL_roots, fun j hj => ?_, fun v hv => (hs v hv).trans z.symm, fun r _ h => (by cases h), fun q _ r _ => ⟨rfl, rfl, rfl, rfl⟩⟩
  have hl : roots.length = 3 := rfl
  obtain ⟨g1, g2, g3, g4⟩ := h2 j (by rw [hl] at hj; exact hj)
  have hg : ng roots j = (j, []) := NL_roots.2.2.1 j (by rw [hl] at hj; exact hj)
  exact ⟨by rw [hg]; exact g1, (g2 83 (by omega) (by omega)).trans z.symm, (g2 84 (by omega) (by omega)).trans z.symm, (g2 85 (by omega) (by omega)).trans z.symm, (g2 86 (by omega) (by omega)).trans z.symm, fun e he => by rw [nix_roots]; exact g3 e he⟩
theorem dX5_empty_0 : decode cX5_empty 0 = .ok (.aload_n 0, 1) := by decide +kernel
theorem dX5_empty_1 : decode cX5_empty 1 = .ok (.iconst 0, 1) := by decide +kernel
theorem dX5_empty_2 : decode cX5_empty 2 = .ok (.putfield 48, 3) := by decide +kernel
theorem dX5_empty_5 : decode cX5_empty 5 = .ok (.iconst 0, 1) := by decide +kernel
theorem dX5_empty_6 : decode cX5_empty 6 = .ok (.istore_n 1, 1) := by decide +kernel
theorem dX5_empty_7 : decode cX5_empty 7 = .ok (.iload_n 1, 1) := by decide +kernel
theorem dX5_empty_8 : decode cX5_empty 8 = .ok (.iconst 3, 1) := by decide +kernel
theorem dX5_empty_9 : decode cX5_empty 9 = .ok (.if_icmp .ge 25, 3) := by decide +kernel
theorem dX5_empty_12 : decode cX5_empty 12 = .ok (.aload_n 0, 1) := by decide +kernel
theorem dX5_empty_13 : decode cX5_empty 13 = .ok (.iload_n 1, 1) := by decide +kernel
theorem dX5_empty_14 : decode cX5_empty 14 = .ok (.invokevirtual 52, 3) := by decide +kernel
theorem dX5_empty_17 : decode cX5_empty 17 = .ok (.pop, 1) := by decide +kernel
theorem dX5_empty_18 : decode cX5_empty 18 = .ok (.aload_n 0, 1) := by decide +kernel
theorem dX5_empty_19 : decode cX5_empty 19 = .ok (.getfield 42, 3) := by decide +kernel
theorem dX5_empty_22 : decode cX5_empty 22 = .ok (.iload_n 1, 1) := by decide +kernel
theorem dX5_empty_23 : decode cX5_empty 23 = .ok (.bipush (-9), 2) := by decide +kernel
theorem dX5_empty_25 : decode cX5_empty 25 = .ok (.invokestatic 56, 3) := by decide +kernel
theorem dX5_empty_28 : decode cX5_empty 28 = .ok (.iinc 1 1, 3) := by decide +kernel
theorem dX5_empty_31 : decode cX5_empty 31 = .ok (.goto (-24), 3) := by decide +kernel
theorem dX5_empty_34 : decode cX5_empty 34 = .ok (.iconst 0, 1) := by decide +kernel
theorem dX5_empty_35 : decode cX5_empty 35 = .ok (.istore_n 1, 1) := by decide +kernel
theorem dX5_empty_36 : decode cX5_empty 36 = .ok (.iload_n 1, 1) := by decide +kernel
theorem dX5_empty_37 : decode cX5_empty 37 = .ok (.iconst 4, 1) := by decide +kernel
theorem dX5_empty_38 : decode cX5_empty 38 = .ok (.if_icmp .ge 18, 3) := by decide +kernel
theorem dX5_empty_41 : decode cX5_empty 41 = .ok (.aload_n 0, 1) := by decide +kernel
theorem dX5_empty_42 : decode cX5_empty 42 = .ok (.getfield 33, 3) := by decide +kernel
theorem dX5_empty_45 : decode cX5_empty 45 = .ok (.iload_n 1, 1) := by decide +kernel
theorem dX5_empty_46 : decode cX5_empty 46 = .ok (.iconst 0, 1) := by decide +kernel
theorem dX5_empty_47 : decode cX5_empty 47 = .ok (.invokestatic 56, 3) := by decide +kernel
theorem dX5_empty_50 : decode cX5_empty 50 = .ok (.iinc 1 1, 3) := by decide +kernel
theorem dX5_empty_53 : decode cX5_empty 53 = .ok (.goto (-17), 3) := by decide +kernel
theorem dX5_empty_56 : decode cX5_empty 56 = .ok (.return_, 1) := by decide +kernel
theorem lp_empty2 {B : Bk} {D : Mem} : ∀ (m : Nat) (v : Nat) (D1 : Mem), v + m = 4 → E0 D1 3 → (∀ w, w < v → D1 88 w = 0) → Fr inT2 D D1 → X 3 138 j_X5_empty 36 [some (.ref 80), some (.int (nI v))] [] (138, P0, D1) (fun x σ => ∃ D' : Mem, x = [] ∧ σ = wd D' ∧ TE D' B roots ff2 ff2 ff2 ff2 (fun _ _ => false) (fun _ => false) ∧ (∀ x, x < 3 → D' 91 x = -9) ∧ Fr inT2 D D') := by
  intro m
  induction m with
  | zero =>
    intro v D1 hv h0 hs hf
    have hly : (lay 82).2 = 43 ∧ (lay 83).2 = 43 ∧ (lay 84).2 = 43 ∧ (lay 85).2 = 43 ∧ (lay 86).2 = 43 ∧ (lay 81).2 = 301 ∧ (lay 87).2 = 10 ∧ (lay 88).2 = 4 ∧ (lay 89).2 = 3 ∧ (lay 90).2 = 3 ∧ (lay 91).2 = 3 := by decide
    refine X_iload_n (nx := 37) dX5_empty_36 rfl rfl rfl ?_
    refine X_iconst (v := nI 4) (nx := 38) dX5_empty_37 rfl rfl ?_
    refine X_icmp_ge (tgt := 56) (nx := 41) dX5_empty_38 rfl rfl (fun h38 => ?_) (fun h38 => ?_)
    · skip
      exact Z_retv dX5_empty_56 rfl ⟨h0.te (fun w hw => hs w (by omega)), fun x hx => (h0.2 x hx).2.2.2, hf⟩
    · exact absurd h38 (fun q => q (nI_le (by omega) (by omega)))
  | succ m ih =>
    intro v D1 hv h0 hs hf
    have hly : (lay 82).2 = 43 ∧ (lay 83).2 = 43 ∧ (lay 84).2 = 43 ∧ (lay 85).2 = 43 ∧ (lay 86).2 = 43 ∧ (lay 81).2 = 301 ∧ (lay 87).2 = 10 ∧ (lay 88).2 = 4 ∧ (lay 89).2 = 3 ∧ (lay 90).2 = 3 ∧ (lay 91).2 = 3 := by decide
    refine X_iload_n (nx := 37) dX5_empty_36 rfl rfl rfl ?_
    refine X_iconst (v := nI 4) (nx := 38) dX5_empty_37 rfl rfl ?_
    refine X_icmp_ge (tgt := 56) (nx := 41) dX5_empty_38 rfl rfl (fun h38 => ?_) (fun h38 => ?_)
    · exact absurd h38 (nI_ge (by omega) (by omega))
    · skip
      refine X_aload_n (nx := 42) dX5_empty_41 rfl rfl rfl ?_
      refine M_getP (nx := 45) dX5_empty_42 rfl fl_RX5_33 rfl (by first | assumption | rfl | decide | omega) (by first | assumption | rfl | decide | omega) (by first | assumption | rfl | decide | omega) ?_
      refine X_iload_n (nx := 46) dX5_empty_45 rfl rfl rfl ?_
      refine X_iconst (v := 0) (nx := 47) dX5_empty_46 rfl rfl ?_
      refine Y_Sv3 (nx := 50) dX5_empty_47 rfl ml_RX5_56 kj_X7_put ks_X7_put (sp_X7_put (i := v) (by decide) (by decide) rfl (by omega)) (by first | decide | omega) (by exact Nat.le_of_ble_eq_true rfl) ?_
      refine X_iinc (nx := 53) dX5_empty_50 rfl (by decide) rfl (by first | exact ii1 _ | rfl) rfl (st_s (st_0)) ?_
      refine X_goto (tgt := 36) dX5_empty_53 rfl ?_
      refine ih (v + 1) _ (by omega) ?_ (fun w hw => ?_) (hf.tr (Fr.up (by unfold inT2; omega)))
      · obtain ⟨g1, g2⟩ := h0
        exact ⟨by rw [up2_other (by omega)]; exact g1, fun j hj => by
          obtain ⟨a1, a2, a3, a4⟩ := g2 j hj
          exact ⟨by rw [up2_other (by omega)]; exact a1, fun b k1 k2 => by rw [up2_other (by omega)]; exact a2 b k1 k2, fun e he => by rw [up2_other (by omega)]; exact a3 e he, by rw [up2_other (by omega)]; exact a4⟩⟩
      · by_cases e : w = v
        · subst e; exact up2_same
        · rw [up2_other (by omega)]; exact hs w (by omega)
theorem lp_empty1 {B : Bk} {D : Mem} : ∀ (m : Nat) (i : Nat) (D1 : Mem), i + m = 3 → E0 D1 i → Fr inT2 D D1 → X 3 138 j_X5_empty 7 [some (.ref 80), some (.int (nI i))] [] (138, P0, D1) (fun x σ => ∃ D' : Mem, x = [] ∧ σ = wd D' ∧ TE D' B roots ff2 ff2 ff2 ff2 (fun _ _ => false) (fun _ => false) ∧ (∀ x, x < 3 → D' 91 x = -9) ∧ Fr inT2 D D') := by
  intro m
  induction m with
  | zero =>
    intro i D1 hi h0 hf
    have hly : (lay 82).2 = 43 ∧ (lay 83).2 = 43 ∧ (lay 84).2 = 43 ∧ (lay 85).2 = 43 ∧ (lay 86).2 = 43 ∧ (lay 81).2 = 301 ∧ (lay 87).2 = 10 ∧ (lay 88).2 = 4 ∧ (lay 89).2 = 3 ∧ (lay 90).2 = 3 ∧ (lay 91).2 = 3 := by decide
    refine X_iload_n (nx := 8) dX5_empty_7 rfl rfl rfl ?_
    refine X_iconst (v := nI 3) (nx := 9) dX5_empty_8 rfl rfl ?_
    refine X_icmp_ge (tgt := 34) (nx := 12) dX5_empty_9 rfl rfl (fun h9 => ?_) (fun h9 => ?_)
    · skip
      refine X_iconst (v := 0) (nx := 35) dX5_empty_34 rfl rfl ?_
      refine X_istore_n (i := 1) (nx := 36) dX5_empty_35 rfl rfl (by decide) rfl (st_s (st_0)) ?_
      exact lp_empty2 4 0 D1 rfl (by rw [show i = 3 by omega] at h0; exact h0) (fun w hw => by omega) hf
    · exact absurd h9 (fun q => q (nI_le (by omega) (by omega)))
  | succ m ih =>
    intro i D1 hi h0 hf
    have hly : (lay 82).2 = 43 ∧ (lay 83).2 = 43 ∧ (lay 84).2 = 43 ∧ (lay 85).2 = 43 ∧ (lay 86).2 = 43 ∧ (lay 81).2 = 301 ∧ (lay 87).2 = 10 ∧ (lay 88).2 = 4 ∧ (lay 89).2 = 3 ∧ (lay 90).2 = 3 ∧ (lay 91).2 = 3 := by decide
    refine X_iload_n (nx := 8) dX5_empty_7 rfl rfl rfl ?_
    refine X_iconst (v := nI 3) (nx := 9) dX5_empty_8 rfl rfl ?_
    refine X_icmp_ge (tgt := 34) (nx := 12) dX5_empty_9 rfl rfl (fun h9 => ?_) (fun h9 => ?_)
    · exact absurd h9 (nI_ge (by omega) (by omega))
    · skip
      refine X_aload_n (nx := 13) dX5_empty_12 rfl rfl rfl ?_
      refine X_iload_n (nx := 14) dX5_empty_13 rfl rfl rfl ?_
      refine Y_Vi1 (nx := 17) dX5_empty_14 rfl ml_RX5_52 kj_X5_addNode kv_X5_addNode (sp_X5_addNode rfl (by omega) h0.1) (by first | assumption | rfl | decide | omega) (by first | assumption | rfl | decide | omega) (by decide) rfl (by first | decide | omega) (by exact Nat.le_of_ble_eq_true rfl) ?_
      refine X_pop (nx := 18) dX5_empty_17 rfl rfl ?_
      refine X_aload_n (nx := 19) dX5_empty_18 rfl rfl rfl ?_
      refine M_getP (nx := 22) dX5_empty_19 rfl fl_RX5_42 rfl (by first | assumption | rfl | decide | omega) (by first | assumption | rfl | decide | omega) (by first | assumption | rfl | decide | omega) ?_
      refine X_iload_n (nx := 23) dX5_empty_22 rfl rfl rfl ?_
      refine X_bipush (v := -9) (nx := 25) dX5_empty_23 rfl rfl ?_
      refine Y_Sv3 (nx := 28) dX5_empty_25 rfl ml_RX5_56 kj_X7_put ks_X7_put (sp_X7_put (i := i) (by decide) (by decide) rfl (by omega)) (by first | decide | omega) (by exact Nat.le_of_ble_eq_true rfl) ?_
      refine X_iinc (nx := 31) dX5_empty_28 rfl (by decide) rfl (by first | exact ii1 _ | rfl) rfl (st_s (st_0)) ?_
      refine X_goto (tgt := 7) dX5_empty_31 rfl ?_
      refine ih (i + 1) _ (by omega) (h0.step (by omega)) (fun b hb => ?_)
      rw [up2_ne (fun e => hb (by unfold inT2; omega))]
      funext x
      unfold anD
      unfold inT2 at hb
      rw [if_neg (by omega), if_neg (by omega), if_neg (by omega), if_neg (by omega)]
      exact congrFun (hf b hb) x
theorem sp_X5_empty {B : Bk} {D : Mem} : Rvx 3 j_X5_empty [.ref 80] D (fun D' => TE D' B roots ff2 ff2 ff2 ff2 (fun _ _ => false) (fun _ => false) ∧ (∀ x, x < 3 → D' 91 x = -9) ∧ Fr inT2 D D') := by
  refine E.start 1 (ls := [some (.ref 80), none]) (by decide +kernel) (Nat.le_of_ble_eq_true rfl) rfl (Nat.le_refl _) (Nat.le_refl _) ?_
  refine X_aload_n (nx := 1) dX5_empty_0 rfl rfl rfl ?_
  refine X_iconst (v := 0) (nx := 2) dX5_empty_1 rfl rfl ?_
  refine M_putI (nx := 5) dX5_empty_2 rfl fl_RX5_48 rfl rfl (by first | assumption | rfl | decide | omega) (by first | assumption | rfl | decide | omega) ?_
  refine X_iconst (v := 0) (nx := 6) dX5_empty_5 rfl rfl ?_
  refine X_istore_n (i := 1) (nx := 7) dX5_empty_6 rfl rfl (by decide) rfl (st_s (st_0)) ?_
  exact lp_empty1 3 0 _ rfl ⟨up2_same, fun j hj => by omega⟩ (Fr.up (by unfold inT2; omega))
/-- whether route i is a mount of R in a router with a way -/
def wyP (B : Bk) (W : Nat → Option Nat) (R i : Nat) : Bool := thN B i && (decide (mo_ B i = nI R) && (decide (ro_ B i = 0) || (W (ro_ B i)).isSome))
def wy (B : Bk) : Nat → Nat → Option Nat
  | 0 => fun _ => none
  | R + 1 => fun x => if x = R + 1 then fst_ (wyP B (wy B R) (R + 1)) 0 10 else wy B R x
theorem dX5_findWays_0 : decode cX5_findWays 0 = .ok (.iconst 1, 1) := by decide +kernel
theorem dX5_findWays_1 : decode cX5_findWays 1 = .ok (.istore_n 2, 1) := by decide +kernel
theorem dX5_findWays_2 : decode cX5_findWays 2 = .ok (.iload_n 2, 1) := by decide +kernel
theorem dX5_findWays_3 : decode cX5_findWays 3 = .ok (.iconst 3, 1) := by decide +kernel
theorem dX5_findWays_4 : decode cX5_findWays 4 = .ok (.if_icmp .ge 100, 3) := by decide +kernel
theorem dX5_findWays_7 : decode cX5_findWays 7 = .ok (.bipush (-9), 2) := by decide +kernel
theorem dX5_findWays_9 : decode cX5_findWays 9 = .ok (.istore_n 3, 1) := by decide +kernel
theorem dX5_findWays_10 : decode cX5_findWays 10 = .ok (.bipush 9, 2) := by decide +kernel
theorem dX5_findWays_12 : decode cX5_findWays 12 = .ok (.istore 4, 2) := by decide +kernel
theorem dX5_findWays_14 : decode cX5_findWays 14 = .ok (.iload 4, 2) := by decide +kernel
theorem dX5_findWays_16 : decode cX5_findWays 16 = .ok (.ifCond .lt 73, 3) := by decide +kernel
theorem dX5_findWays_19 : decode cX5_findWays 19 = .ok (.aload_n 1, 1) := by decide +kernel
theorem dX5_findWays_20 : decode cX5_findWays 20 = .ok (.iload 4, 2) := by decide +kernel
theorem dX5_findWays_22 : decode cX5_findWays 22 = .ok (.invokevirtual 72, 3) := by decide +kernel
theorem dX5_findWays_25 : decode cX5_findWays 25 = .ok (.astore 5, 2) := by decide +kernel
theorem dX5_findWays_27 : decode cX5_findWays 27 = .ok (.aload_n 1, 1) := by decide +kernel
theorem dX5_findWays_28 : decode cX5_findWays 28 = .ok (.iload 4, 2) := by decide +kernel
theorem dX5_findWays_30 : decode cX5_findWays 30 = .ok (.invokevirtual 68, 3) := by decide +kernel
theorem dX5_findWays_33 : decode cX5_findWays 33 = .ok (.ifCond .eq 16, 3) := by decide +kernel
theorem dX5_findWays_36 : decode cX5_findWays 36 = .ok (.aload 5, 2) := by decide +kernel
theorem dX5_findWays_38 : decode cX5_findWays 38 = .ok (.getfield 105, 3) := by decide +kernel
theorem dX5_findWays_41 : decode cX5_findWays 41 = .ok (.iload_n 2, 1) := by decide +kernel
theorem dX5_findWays_42 : decode cX5_findWays 42 = .ok (.if_icmp .ne 7, 3) := by decide +kernel
theorem dX5_findWays_45 : decode cX5_findWays 45 = .ok (.iconst 1, 1) := by decide +kernel
theorem dX5_findWays_46 : decode cX5_findWays 46 = .ok (.goto 4, 3) := by decide +kernel
theorem dX5_findWays_49 : decode cX5_findWays 49 = .ok (.iconst 0, 1) := by decide +kernel
theorem dX5_findWays_50 : decode cX5_findWays 50 = .ok (.istore 6, 2) := by decide +kernel
theorem dX5_findWays_52 : decode cX5_findWays 52 = .ok (.iload 6, 2) := by decide +kernel
theorem dX5_findWays_54 : decode cX5_findWays 54 = .ok (.ifCond .eq 29, 3) := by decide +kernel
theorem dX5_findWays_57 : decode cX5_findWays 57 = .ok (.aload 5, 2) := by decide +kernel
theorem dX5_findWays_59 : decode cX5_findWays 59 = .ok (.getfield 84, 3) := by decide +kernel
theorem dX5_findWays_62 : decode cX5_findWays 62 = .ok (.ifCond .eq 18, 3) := by decide +kernel
theorem dX5_findWays_65 : decode cX5_findWays 65 = .ok (.aload_n 0, 1) := by decide +kernel
theorem dX5_findWays_66 : decode cX5_findWays 66 = .ok (.getfield 42, 3) := by decide +kernel
theorem dX5_findWays_69 : decode cX5_findWays 69 = .ok (.aload 5, 2) := by decide +kernel
theorem dX5_findWays_71 : decode cX5_findWays 71 = .ok (.getfield 84, 3) := by decide +kernel
theorem dX5_findWays_74 : decode cX5_findWays 74 = .ok (.invokestatic 63, 3) := by decide +kernel
theorem dX5_findWays_77 : decode cX5_findWays 77 = .ok (.ifCond .lt 6, 3) := by decide +kernel
theorem dX5_findWays_80 : decode cX5_findWays 80 = .ok (.iload 4, 2) := by decide +kernel
theorem dX5_findWays_82 : decode cX5_findWays 82 = .ok (.istore_n 3, 1) := by decide +kernel
theorem dX5_findWays_83 : decode cX5_findWays 83 = .ok (.iinc 4 (-1), 3) := by decide +kernel
theorem dX5_findWays_86 : decode cX5_findWays 86 = .ok (.goto (-72), 3) := by decide +kernel
theorem dX5_findWays_89 : decode cX5_findWays 89 = .ok (.aload_n 0, 1) := by decide +kernel
theorem dX5_findWays_90 : decode cX5_findWays 90 = .ok (.getfield 42, 3) := by decide +kernel
theorem dX5_findWays_93 : decode cX5_findWays 93 = .ok (.iload_n 2, 1) := by decide +kernel
theorem dX5_findWays_94 : decode cX5_findWays 94 = .ok (.iload_n 3, 1) := by decide +kernel
theorem dX5_findWays_95 : decode cX5_findWays 95 = .ok (.invokestatic 56, 3) := by decide +kernel
theorem dX5_findWays_98 : decode cX5_findWays 98 = .ok (.iinc 2 1, 3) := by decide +kernel
theorem dX5_findWays_101 : decode cX5_findWays 101 = .ok (.goto (-99), 3) := by decide +kernel
theorem dX5_findWays_104 : decode cX5_findWays 104 = .ok (.return_, 1) := by decide +kernel
theorem X_fg7 {d k pc : Nat} {j : MI} {a b c d0 e o o2 : Option Value} {st : List Value} {σ : Wd} {Q : List Value → Wd → Prop} (hX : X d k j pc [a, b, c, d0, e, none, none] st σ Q) : X d k j pc [a, b, c, d0, e, o, o2] st σ Q := by
  refine X_forget (fun i v h => ?_) hX
  match i, h with
  | 0, h => exact h
  | 1, h => exact h
  | 2, h => exact h
  | 3, h => exact h
  | 4, h => exact h
  | 5, h => cases h
  | 6, h => cases h
  | n + 7, h => cases h
theorem X_fg75 {d k pc : Nat} {j : MI} {a b c o1 o2 o3 o4 : Option Value} {st : List Value} {σ : Wd} {Q : List Value → Wd → Prop} (hX : X d k j pc [a, b, c, none, none, none, none] st σ Q) : X d k j pc [a, b, c, o1, o2, o3, o4] st σ Q := by
  refine X_forget (fun i v h => ?_) hX
  match i, h with
  | 0, h => exact h
  | 1, h => exact h
  | 2, h => exact h
  | 3, h => cases h
  | 4, h => cases h
  | 5, h => cases h
  | 6, h => cases h
  | n + 7, h => cases h
theorem opI_small {o : Option Nat} {b : Nat} (h : ∀ k, o = some k → k < b) (hb : b ≤ 2147483648) : (opI o < 0) ↔ o = none := by
  cases o with
  | none => exact ⟨fun _ => rfl, fun _ => by decide⟩
  | some k => exact ⟨fun q => absurd q (nI_neg (by have := h k rfl; omega)), fun q => by cases q⟩
theorem wy_lt {B : Bk} : ∀ (R x k : Nat), wy B R x = some k → k < 10 := by
  intro R
  induction R with
  | zero => intro x k h; cases h
  | succ R ih =>
    intro x k h
    unfold wy at h
    split at h
    · have := (fst_some h).2.1; omega
    · exact ih x k h
theorem X_fg47 {d k pc : Nat} {j : MI} {a b c d0 o1 o2 o3 : Option Value} {st : List Value} {σ : Wd} {Q : List Value → Wd → Prop} (hX : X d k j pc [a, b, c, d0, none, none, none] st σ Q) : X d k j pc [a, b, c, d0, o1, o2, o3] st σ Q := by
  refine X_forget (fun i v h => ?_) hX
  match i, h with
  | 0, h => exact h
  | 1, h => exact h
  | 2, h => exact h
  | 3, h => exact h
  | 4, h => cases h
  | 5, h => cases h
  | 6, h => cases h
  | n + 7, h => cases h
theorem lp_ways_in {B : Bk} {D : Mem} (hE : Enc D 1 B) (hV : VB B) {R : Nat} {D1 : Mem} {Q : List Value → Wd → Prop} (hR : R < 2) (hf : Fr (fun b => b = 91) D D1) (hW : ∀ x, x < 3 → D1 91 x = opI (wy B R x)) (hk : X 3 138 j_X5_findWays 89 [some (.ref 80), some (.ref 1), some (.int (nI (R + 1))), some (.int (opI (fst_ (wyP B (wy B R) (R + 1)) 0 10))), none, none, none] [] (138, P0, D1) Q) : ∀ (m : Nat) (a : Nat), a + m = 10 → m ≤ 10 → X 3 138 j_X5_findWays 14 [some (.ref 80), some (.ref 1), some (.int (nI (R + 1))), some (.int (opI (fst_ (wyP B (wy B R) (R + 1)) m a))), some (.int (nI m - 1)), none, none] [] (138, P0, D1) (Q) := by
  intro m
  induction m with
  | zero =>
    intro a ha hm
    have hly : (lay 82).2 = 43 ∧ (lay 83).2 = 43 ∧ (lay 84).2 = 43 ∧ (lay 85).2 = 43 ∧ (lay 86).2 = 43 ∧ (lay 81).2 = 301 ∧ (lay 87).2 = 10 ∧ (lay 88).2 = 4 ∧ (lay 89).2 = 3 ∧ (lay 90).2 = 3 ∧ (lay 91).2 = 3 := by decide
    obtain ⟨⟨b1, b2⟩, ⟨b3, b4, b5, b6⟩, ⟨b7, b8, b9⟩, ⟨c1, c2, c3⟩, ⟨c4, c5, c6⟩, c7, c8⟩ := isB.facts (b := 1) (Or.inl rfl)
    have h3 := hE.2.2.1
    have hE1 : Enc D1 1 B := hE.fr (fun x hx => hf x (by unfold inB at hx; omega))
    refine X_iload (nx := 16) dX5_findWays_14 rfl rfl ?_
    refine X_if_lt (tgt := 89) (nx := 19) dX5_findWays_16 rfl rfl (fun h16 => ?_) (fun h16 => ?_)
    · skip
      rw [show a = 10 by omega]
      refine X_fg47 ?_
      exact hk
    · exact absurd h16 (fun q => q m1_lt)
  | succ m ih =>
    intro a ha hm
    have hly : (lay 82).2 = 43 ∧ (lay 83).2 = 43 ∧ (lay 84).2 = 43 ∧ (lay 85).2 = 43 ∧ (lay 86).2 = 43 ∧ (lay 81).2 = 301 ∧ (lay 87).2 = 10 ∧ (lay 88).2 = 4 ∧ (lay 89).2 = 3 ∧ (lay 90).2 = 3 ∧ (lay 91).2 = 3 := by decide
    obtain ⟨⟨b1, b2⟩, ⟨b3, b4, b5, b6⟩, ⟨b7, b8, b9⟩, ⟨c1, c2, c3⟩, ⟨c4, c5, c6⟩, c7, c8⟩ := isB.facts (b := 1) (Or.inl rfl)
    have h3 := hE.2.2.1
    have hE1 : Enc D1 1 B := hE.fr (fun x hx => hf x (by unfold inB at hx; omega))
    refine X_iload (nx := 16) dX5_findWays_14 rfl rfl ?_
    refine X_if_lt (tgt := 89) (nx := 19) dX5_findWays_16 rfl rfl (fun h16 => ?_) (fun h16 => ?_)
    · exact absurd h16 (by rw [sub1]; exact nI_neg (by omega))
    · skip
      refine X_aload_n (nx := 20) dX5_findWays_19 rfl rfl rfl ?_
      refine X_iload (nx := 22) dX5_findWays_20 rfl rfl ?_
      refine Y_Vr1 (nx := 25) dX5_findWays_22 rfl ml_RX5_72 kj_X0_at kv_X0_at (sp_X0_at (b := 1) (Or.inl rfl) (i := m) (sub1 m) (by omega)) (by first | assumption | rfl | decide | omega) (by first | assumption | rfl | decide | omega) (by decide) rfl (by first | decide | omega) (by exact Nat.le_of_ble_eq_true rfl) ?_
      obtain ⟨r1, r2, r3, r4, r5, r6⟩ := (c8 m (by omega)).2.facts
      refine X_astore (i := 5) (nx := 27) dX5_findWays_25 rfl (by decide) rfl (st_s (st_s (st_s (st_s (st_s (st_0)))))) ?_
      refine X_aload_n (nx := 28) dX5_findWays_27 rfl rfl rfl ?_
      refine X_iload (nx := 30) dX5_findWays_28 rfl rfl ?_
      refine Y_Vi1 (nx := 33) dX5_findWays_30 rfl ml_RX5_68 kj_X0_isThere kv_X0_isThere (sp_X0_isThere (b := 1) (Or.inl rfl) hE1) (by first | assumption | rfl | decide | omega) (by first | assumption | rfl | decide | omega) (by decide) rfl (by first | decide | omega) (by exact Nat.le_of_ble_eq_true rfl) ?_
      refine X_if_eq (tgt := 49) (nx := 36) dX5_findWays_33 rfl rfl (fun h33 => ?_) (fun h33 => ?_)
      · skip
        rw [sub1, isTh_n h3 (by omega), b2i_f] at h33
        have hP : wyP B (wy B R) (R + 1) m = false := by unfold wyP; rw [h33]; rfl
        refine X_iconst (v := 0) (nx := 50) dX5_findWays_49 rfl rfl ?_
        refine X_istore (i := 6) (nx := 52) dX5_findWays_50 rfl (by decide) rfl (st_s (st_s (st_s (st_s (st_s (st_s (st_0))))))) ?_
        refine X_iload (nx := 54) dX5_findWays_52 rfl rfl ?_
        refine X_if_eq (tgt := 83) (nx := 57) dX5_findWays_54 rfl rfl (fun h54 => ?_) (fun h54 => ?_)
        · skip
          refine X_iinc (nx := 86) dX5_findWays_83 rfl (by decide) rfl (show nI (m + 1) - 1 + Int32.ofInt (-1) = nI m - 1 by rw [sub1, dec1]) rfl (st_s (st_s (st_s (st_s (st_0))))) ?_
          refine X_goto (tgt := 14) dX5_findWays_86 rfl ?_
          refine X_fg7 ?_
          first
            | (have e1 : fst_ (wyP B (wy B R) (R + 1)) m (a + 1) = fst_ (wyP B (wy B R) (R + 1)) (m + 1) a := fst_step hP
               have e2 := ih (a + 1) (by omega) (by omega)
               rw [e1] at e2
               exact e2)
            | (have e1 : fst_ (wyP B (wy B R) (R + 1)) m (a + 1) = some m := fst_hit hP
               have e2 := ih (a + 1) (by omega) (by omega)
               rw [e1] at e2
               have e3 : nI (m + 1) - 1 = opI (some m) := sub1 m
               rw [e3]
               exact e2)
        · exact absurd h54 (by decide)
      · skip
        rw [sub1, isTh_n h3 (by omega), b2i_t] at h33
        have hmc : m < cm_ B := by unfold thN at h33; simp only [Bool.and_eq_true, decide_eq_true_eq] at h33; exact h33.1
        obtain ⟨x1, x2, x3, x4, x5⟩ := hE1.2.2.2 m hmc
        have hro := (hV.2.2 m hmc).1
        refine X_aload (nx := 38) dX5_findWays_36 rfl rfl ?_
        refine M_getI (nx := 41) dX5_findWays_38 rfl fl_RX5_105 rfl (by first | assumption | rfl | decide | omega) (by first | assumption | rfl | decide | omega) ?_
        refine X_top (x4) ?_
        refine X_iload_n (nx := 42) dX5_findWays_41 rfl rfl rfl ?_
        refine X_icmp_ne (tgt := 49) (nx := 45) dX5_findWays_42 rfl rfl (fun h42 => ?_) (fun h42 => ?_)
        · skip
          have hP : wyP B (wy B R) (R + 1) m = false := by unfold wyP; rw [decide_eq_false h42]; simp
          refine X_iconst (v := 0) (nx := 50) dX5_findWays_49 rfl rfl ?_
          refine X_istore (i := 6) (nx := 52) dX5_findWays_50 rfl (by decide) rfl (st_s (st_s (st_s (st_s (st_s (st_s (st_0))))))) ?_
          refine X_iload (nx := 54) dX5_findWays_52 rfl rfl ?_
          refine X_if_eq (tgt := 83) (nx := 57) dX5_findWays_54 rfl rfl (fun h54 => ?_) (fun h54 => ?_)
          · skip
            refine X_iinc (nx := 86) dX5_findWays_83 rfl (by decide) rfl (show nI (m + 1) - 1 + Int32.ofInt (-1) = nI m - 1 by rw [sub1, dec1]) rfl (st_s (st_s (st_s (st_s (st_0))))) ?_
            refine X_goto (tgt := 14) dX5_findWays_86 rfl ?_
            refine X_fg7 ?_
            first
              | (have e1 : fst_ (wyP B (wy B R) (R + 1)) m (a + 1) = fst_ (wyP B (wy B R) (R + 1)) (m + 1) a := fst_step hP
                 have e2 := ih (a + 1) (by omega) (by omega)
                 rw [e1] at e2
                 exact e2)
              | (have e1 : fst_ (wyP B (wy B R) (R + 1)) m (a + 1) = some m := fst_hit hP
                 have e2 := ih (a + 1) (by omega) (by omega)
                 rw [e1] at e2
                 have e3 : nI (m + 1) - 1 = opI (some m) := sub1 m
                 rw [e3]
                 exact e2)
          · exact absurd h54 (by decide)
        · skip
          refine X_iconst (v := 1) (nx := 46) dX5_findWays_45 rfl rfl ?_
          refine X_goto (tgt := 50) dX5_findWays_46 rfl ?_
          refine X_istore (i := 6) (nx := 52) dX5_findWays_50 rfl (by decide) rfl (st_s (st_s (st_s (st_s (st_s (st_s (st_0))))))) ?_
          refine X_iload (nx := 54) dX5_findWays_52 rfl rfl ?_
          refine X_if_eq (tgt := 83) (nx := 57) dX5_findWays_54 rfl rfl (fun h54 => ?_) (fun h54 => ?_)
          · exact absurd h54 (by decide)
          · skip
            refine X_aload (nx := 59) dX5_findWays_57 rfl rfl ?_
            refine M_getI (nx := 62) dX5_findWays_59 rfl fl_RX5_84 rfl (by first | assumption | rfl | decide | omega) (by first | assumption | rfl | decide | omega) ?_
            refine X_top (x2) ?_
            refine X_if_eq (tgt := 80) (nx := 65) dX5_findWays_62 rfl rfl (fun h62 => ?_) (fun h62 => ?_)
            · skip
              rw [nI_0' (by omega)] at h62
              have hP : wyP B (wy B R) (R + 1) m = true := by unfold wyP; rw [h33, decide_eq_true h42, decide_eq_true h62]; rfl
              refine X_iload (nx := 82) dX5_findWays_80 rfl rfl ?_
              refine X_istore_n (i := 3) (nx := 83) dX5_findWays_82 rfl rfl (by decide) rfl (st_s (st_s (st_s (st_0)))) ?_
              refine X_iinc (nx := 86) dX5_findWays_83 rfl (by decide) rfl (show nI (m + 1) - 1 + Int32.ofInt (-1) = nI m - 1 by rw [sub1, dec1]) rfl (st_s (st_s (st_s (st_s (st_0))))) ?_
              refine X_goto (tgt := 14) dX5_findWays_86 rfl ?_
              refine X_fg7 ?_
              first
                | (have e1 : fst_ (wyP B (wy B R) (R + 1)) m (a + 1) = fst_ (wyP B (wy B R) (R + 1)) (m + 1) a := fst_step hP
                   have e2 := ih (a + 1) (by omega) (by omega)
                   rw [e1] at e2
                   exact e2)
                | (have e1 : fst_ (wyP B (wy B R) (R + 1)) m (a + 1) = some m := fst_hit hP
                   have e2 := ih (a + 1) (by omega) (by omega)
                   rw [e1] at e2
                   have e3 : nI (m + 1) - 1 = opI (some m) := sub1 m
                   rw [e3]
                   exact e2)
            · skip
              rw [nI_0' (by omega)] at h62
              refine X_aload_n (nx := 66) dX5_findWays_65 rfl rfl rfl ?_
              refine M_getP (nx := 69) dX5_findWays_66 rfl fl_RX5_42 rfl (by first | assumption | rfl | decide | omega) (by first | assumption | rfl | decide | omega) (by first | assumption | rfl | decide | omega) ?_
              refine X_aload (nx := 71) dX5_findWays_69 rfl rfl ?_
              refine M_getI (nx := 74) dX5_findWays_71 rfl fl_RX5_84 rfl (by first | assumption | rfl | decide | omega) (by first | assumption | rfl | decide | omega) ?_
              refine X_top (x2) ?_
              refine Y_Si2 (nx := 77) dX5_findWays_74 rfl ml_RX5_63 kj_X7_numberAt ks_X7_numberAt (sp_X7_numberAt (i := ro_ B m) (by decide) (by decide) rfl (by omega)) (by first | decide | omega) (by exact Nat.le_of_ble_eq_true rfl) ?_
              refine X_top (hW _ hro) ?_
              refine X_if_lt (tgt := 83) (nx := 80) dX5_findWays_77 rfl rfl (fun h77 => ?_) (fun h77 => ?_)
              · skip
                have hwn : wy B R (ro_ B m) = none := (opI_small (fun k hk => wy_lt R _ k hk) (by omega)).mp h77
                have hP : wyP B (wy B R) (R + 1) m = false := by unfold wyP; rw [decide_eq_false h62, hwn]; simp
                refine X_iinc (nx := 86) dX5_findWays_83 rfl (by decide) rfl (show nI (m + 1) - 1 + Int32.ofInt (-1) = nI m - 1 by rw [sub1, dec1]) rfl (st_s (st_s (st_s (st_s (st_0))))) ?_
                refine X_goto (tgt := 14) dX5_findWays_86 rfl ?_
                refine X_fg7 ?_
                first
                  | (have e1 : fst_ (wyP B (wy B R) (R + 1)) m (a + 1) = fst_ (wyP B (wy B R) (R + 1)) (m + 1) a := fst_step hP
                     have e2 := ih (a + 1) (by omega) (by omega)
                     rw [e1] at e2
                     exact e2)
                  | (have e1 : fst_ (wyP B (wy B R) (R + 1)) m (a + 1) = some m := fst_hit hP
                     have e2 := ih (a + 1) (by omega) (by omega)
                     rw [e1] at e2
                     have e3 : nI (m + 1) - 1 = opI (some m) := sub1 m
                     rw [e3]
                     exact e2)
              · skip
                have hws : (wy B R (ro_ B m)).isSome = true := opI_ge h77
                have hP : wyP B (wy B R) (R + 1) m = true := by unfold wyP; rw [h33, decide_eq_true h42, hws]; simp
                refine X_iload (nx := 82) dX5_findWays_80 rfl rfl ?_
                refine X_istore_n (i := 3) (nx := 83) dX5_findWays_82 rfl rfl (by decide) rfl (st_s (st_s (st_s (st_0)))) ?_
                refine X_iinc (nx := 86) dX5_findWays_83 rfl (by decide) rfl (show nI (m + 1) - 1 + Int32.ofInt (-1) = nI m - 1 by rw [sub1, dec1]) rfl (st_s (st_s (st_s (st_s (st_0))))) ?_
                refine X_goto (tgt := 14) dX5_findWays_86 rfl ?_
                refine X_fg7 ?_
                first
                  | (have e1 : fst_ (wyP B (wy B R) (R + 1)) m (a + 1) = fst_ (wyP B (wy B R) (R + 1)) (m + 1) a := fst_step hP
                     have e2 := ih (a + 1) (by omega) (by omega)
                     rw [e1] at e2
                     exact e2)
                  | (have e1 : fst_ (wyP B (wy B R) (R + 1)) m (a + 1) = some m := fst_hit hP
                     have e2 := ih (a + 1) (by omega) (by omega)
                     rw [e1] at e2
                     have e3 : nI (m + 1) - 1 = opI (some m) := sub1 m
                     rw [e3]
                     exact e2)
theorem lp_ways_out {B : Bk} {D : Mem} (hE : Enc D 1 B) (hV : VB B) : ∀ (m : Nat) (R : Nat) (D1 : Mem), R + m = 2 → Fr (fun b => b = 91) D D1 → (∀ x, x < 3 → D1 91 x = opI (wy B R x)) → X 3 138 j_X5_findWays 2 [some (.ref 80), some (.ref 1), some (.int (nI (R + 1))), none, none, none, none] [] (138, P0, D1) (fun x σ => ∃ D' : Mem, x = [] ∧ σ = wd D' ∧ (∀ x, x < 3 → D' 91 x = opI (wy B 2 x)) ∧ Fr (fun b => b = 91) D D') := by
  intro m
  induction m with
  | zero =>
    intro R D1 hR hf hW
    have hly : (lay 82).2 = 43 ∧ (lay 83).2 = 43 ∧ (lay 84).2 = 43 ∧ (lay 85).2 = 43 ∧ (lay 86).2 = 43 ∧ (lay 81).2 = 301 ∧ (lay 87).2 = 10 ∧ (lay 88).2 = 4 ∧ (lay 89).2 = 3 ∧ (lay 90).2 = 3 ∧ (lay 91).2 = 3 := by decide
    obtain ⟨⟨b1, b2⟩, ⟨b3, b4, b5, b6⟩, ⟨b7, b8, b9⟩, ⟨c1, c2, c3⟩, ⟨c4, c5, c6⟩, c7, c8⟩ := isB.facts (b := 1) (Or.inl rfl)
    refine X_iload_n (nx := 3) dX5_findWays_2 rfl rfl rfl ?_
    refine X_iconst (v := nI 3) (nx := 4) dX5_findWays_3 rfl rfl ?_
    refine X_icmp_ge (tgt := 104) (nx := 7) dX5_findWays_4 rfl rfl (fun h4 => ?_) (fun h4 => ?_)
    · skip
      exact Z_retv dX5_findWays_104 rfl ⟨by rw [show R = 2 by omega] at hW; exact hW, hf⟩
    · exact absurd h4 (fun q => q (nI_le (by omega) (by omega)))
  | succ m ih =>
    intro R D1 hR hf hW
    have hly : (lay 82).2 = 43 ∧ (lay 83).2 = 43 ∧ (lay 84).2 = 43 ∧ (lay 85).2 = 43 ∧ (lay 86).2 = 43 ∧ (lay 81).2 = 301 ∧ (lay 87).2 = 10 ∧ (lay 88).2 = 4 ∧ (lay 89).2 = 3 ∧ (lay 90).2 = 3 ∧ (lay 91).2 = 3 := by decide
    obtain ⟨⟨b1, b2⟩, ⟨b3, b4, b5, b6⟩, ⟨b7, b8, b9⟩, ⟨c1, c2, c3⟩, ⟨c4, c5, c6⟩, c7, c8⟩ := isB.facts (b := 1) (Or.inl rfl)
    refine X_iload_n (nx := 3) dX5_findWays_2 rfl rfl rfl ?_
    refine X_iconst (v := nI 3) (nx := 4) dX5_findWays_3 rfl rfl ?_
    refine X_icmp_ge (tgt := 104) (nx := 7) dX5_findWays_4 rfl rfl (fun h4 => ?_) (fun h4 => ?_)
    · exact absurd h4 (nI_ge (by omega) (by omega))
    · skip
      refine X_bipush (v := -9) (nx := 9) dX5_findWays_7 rfl rfl ?_
      refine X_istore_n (i := 3) (nx := 10) dX5_findWays_9 rfl rfl (by decide) rfl (st_s (st_s (st_s (st_0)))) ?_
      refine X_bipush (v := 9) (nx := 12) dX5_findWays_10 rfl rfl ?_
      refine X_istore (i := 4) (nx := 14) dX5_findWays_12 rfl (by decide) rfl (st_s (st_s (st_s (st_s (st_0))))) ?_
      refine lp_ways_in hE hV (by omega) hf hW ?_ 10 0 rfl (Nat.le_refl _)
      refine X_aload_n (nx := 90) dX5_findWays_89 rfl rfl rfl ?_
      refine M_getP (nx := 93) dX5_findWays_90 rfl fl_RX5_42 rfl (by first | assumption | rfl | decide | omega) (by first | assumption | rfl | decide | omega) (by first | assumption | rfl | decide | omega) ?_
      refine X_iload_n (nx := 94) dX5_findWays_93 rfl rfl rfl ?_
      refine X_iload_n (nx := 95) dX5_findWays_94 rfl rfl rfl ?_
      refine Y_Sv3 (nx := 98) dX5_findWays_95 rfl ml_RX5_56 kj_X7_put ks_X7_put (sp_X7_put (i := R + 1) (by decide) (by decide) rfl (by omega)) (by first | decide | omega) (by exact Nat.le_of_ble_eq_true rfl) ?_
      refine X_iinc (nx := 101) dX5_findWays_98 rfl (by decide) rfl (by first | exact ii1 _ | rfl) rfl (st_s (st_s (st_0))) ?_
      refine X_goto (tgt := 2) dX5_findWays_101 rfl ?_
      refine X_fg75 ?_
      refine ih (R + 1) _ (by omega) (hf.tr (Fr.up rfl)) (fun x hx => ?_)
      show _ = opI (if x = R + 1 then fst_ (wyP B (wy B R) (R + 1)) 0 10 else wy B R x)
      by_cases e : x = R + 1
      · subst e; rw [if_pos rfl]; exact up2_same
      · rw [if_neg e, up2_other (by omega)]; exact hW x hx
theorem sp_X5_findWays {B : Bk} {D : Mem} (hE : Enc D 1 B) (hV : VB B) (h9 : ∀ x, x < 3 → D 91 x = -9) : Rvx 3 j_X5_findWays [.ref 80, .ref 1] D (fun D' => (∀ x, x < 3 → D' 91 x = opI (wy B 2 x)) ∧ Fr (fun b => b = 91) D D') := by
  refine E.start 5 (ls := [some (.ref 80), some (.ref 1), none, none, none, none, none]) (by decide +kernel) (Nat.le_of_ble_eq_true rfl) rfl (Nat.le_refl _) (Nat.le_refl _) ?_
  refine X_iconst (v := 1) (nx := 1) dX5_findWays_0 rfl rfl ?_
  refine X_istore_n (i := 2) (nx := 2) dX5_findWays_1 rfl rfl (by decide) rfl (st_s (st_s (st_0))) ?_
  exact lp_ways_out hE hV 2 0 D rfl Fr.rf (fun x hx => h9 x hx)
