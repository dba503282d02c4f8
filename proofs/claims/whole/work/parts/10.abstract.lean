/-! THE ABSTRACT SIDE: what cells hold, in lists and numbers; calls whose answer is told by a relation -/
abbrev Rix (d : Nat) (j : MI) (vs : List Value) (D : Mem) (Φ : Int32 → Mem → Prop) : Prop := E d 138 j vs (wd D) (fun r σ => ∃ (v : Int32) (D' : Mem), r = [.int v] ∧ σ = wd D' ∧ Φ v D')
abbrev Rlx (d : Nat) (j : MI) (vs : List Value) (D : Mem) (Φ : Int64 → Mem → Prop) : Prop := E d 138 j vs (wd D) (fun r σ => ∃ (v : Int64) (D' : Mem), r = [.long v] ∧ σ = wd D' ∧ Φ v D')
abbrev Rrx (d : Nat) (j : MI) (vs : List Value) (D : Mem) (Φ : Nat → Mem → Prop) : Prop := E d 138 j vs (wd D) (fun r σ => ∃ (v : Nat) (D' : Mem), r = [.ref v] ∧ σ = wd D' ∧ Φ v D')
abbrev Rvx (d : Nat) (j : MI) (vs : List Value) (D : Mem) (Φ : Mem → Prop) : Prop := E d 138 j vs (wd D) (fun r σ => ∃ (D' : Mem), r = [] ∧ σ = wd D' ∧ Φ D')
section ZROWS
variable {d d' pc nx idx : Nat} {j j' : MI} {ls : List (Option Value)} {rest st : List Value} {D D' : Mem} {Q : List Value → Wd → Prop}
theorem Z_reti {v : Int32} {Φ : Int32 → Mem → Prop} (hd : decode j.2.1 pc = .ok (.ireturn, 1)) (ht : j.2.2.2 = some .int ∨ (j.2.2.2 = some .boolean ∧ (v = 0 ∨ v = 1))) (h : Φ v D) : X d 138 j pc ls [.int v] (138, P0, D) (fun r σ => ∃ (v : Int32) (D' : Mem), r = [.int v] ∧ σ = wd D' ∧ Φ v D') := by
  refine X_ret ⟨?_, hd⟩ rfl ⟨v, D, rfl, rfl, h⟩
  rcases ht with ht | ⟨ht, hv | hv⟩
  · exact ⟨_, ht, rfl⟩
  · subst hv; exact ⟨_, ht, rfl⟩
  · subst hv; exact ⟨_, ht, rfl⟩
theorem Z_retl {v : Int64} {Φ : Int64 → Mem → Prop} (hd : decode j.2.1 pc = .ok (.lreturn, 1)) (ht : j.2.2.2 = some .long) (h : Φ v D) : X d 138 j pc ls [.long v] (138, P0, D) (fun r σ => ∃ (v : Int64) (D' : Mem), r = [.long v] ∧ σ = wd D' ∧ Φ v D') :=
  X_ret ⟨ht, hd⟩ rfl ⟨v, D, rfl, rfl, h⟩
theorem Z_reta {v : Nat} {Φ : Nat → Mem → Prop} (hd : decode j.2.1 pc = .ok (.areturn, 1)) (ht : ∃ n, j.2.2.2 = some (.object n)) (h : Φ v D) : X d 138 j pc ls [.ref v] (138, P0, D) (fun r σ => ∃ (v : Nat) (D' : Mem), r = [.ref v] ∧ σ = wd D' ∧ Φ v D') :=
  X_ret ⟨ht, hd⟩ rfl ⟨v, D, rfl, rfl, h⟩
theorem Z_retv {Φ : Mem → Prop} (hd : decode j.2.1 pc = .ok (.return_, 1)) (ht : j.2.2.2 = none) (h : Φ D) : X d 138 j pc ls [] (138, P0, D) (fun r σ => ∃ (D' : Mem), r = [] ∧ σ = wd D' ∧ Φ D') :=
  X_ret ⟨ht, hd⟩ rfl ⟨D, rfl, rfl, h⟩
theorem Z_Si1 {v1 : Value} {Φ : Int32 → Mem → Prop} (hd : decode j.2.1 pc = .ok (.invokestatic idx, 3)) (hn : pc + 3 = nx) (hl0 : ML j.1.cls idx j') (hj : KJ j' 1) (hv : Cond.static j'.1 ∈ big) (hE : Rix d' j' [v1] D Φ) (hd' : d' < d) (hcat : (rest.map fun v => v.category).sum ≤ 8) (kk : ∀ (u : Int32) (D' : Mem), Φ u D' → X d 138 j nx ls (.int u :: rest) (138, P0, D') Q) : X d 138 j pc ls (v1 :: rest) (138, P0, D) Q := X_callS hd hn hl0 hj hv hE rfl hd' rfl hcat (Nat.le_refl _) (Nat.le_refl _) (Or.inl rfl) (fun _ _ e => by obtain ⟨u, D1, e1, e2, e3⟩ := e; subst e1; subst e2; exact kk u D1 e3)
theorem Z_Si2 {v1 v2 : Value} {Φ : Int32 → Mem → Prop} (hd : decode j.2.1 pc = .ok (.invokestatic idx, 3)) (hn : pc + 3 = nx) (hl0 : ML j.1.cls idx j') (hj : KJ j' 2) (hv : Cond.static j'.1 ∈ big) (hE : Rix d' j' [v1, v2] D Φ) (hd' : d' < d) (hcat : (rest.map fun v => v.category).sum ≤ 8) (kk : ∀ (u : Int32) (D' : Mem), Φ u D' → X d 138 j nx ls (.int u :: rest) (138, P0, D') Q) : X d 138 j pc ls (v2 :: v1 :: rest) (138, P0, D) Q := X_callS hd hn hl0 hj hv hE rfl hd' rfl hcat (Nat.le_refl _) (Nat.le_refl _) (Or.inl rfl) (fun _ _ e => by obtain ⟨u, D1, e1, e2, e3⟩ := e; subst e1; subst e2; exact kk u D1 e3)
theorem Z_Si3 {v1 v2 v3 : Value} {Φ : Int32 → Mem → Prop} (hd : decode j.2.1 pc = .ok (.invokestatic idx, 3)) (hn : pc + 3 = nx) (hl0 : ML j.1.cls idx j') (hj : KJ j' 3) (hv : Cond.static j'.1 ∈ big) (hE : Rix d' j' [v1, v2, v3] D Φ) (hd' : d' < d) (hcat : (rest.map fun v => v.category).sum ≤ 8) (kk : ∀ (u : Int32) (D' : Mem), Φ u D' → X d 138 j nx ls (.int u :: rest) (138, P0, D') Q) : X d 138 j pc ls (v3 :: v2 :: v1 :: rest) (138, P0, D) Q := X_callS hd hn hl0 hj hv hE rfl hd' rfl hcat (Nat.le_refl _) (Nat.le_refl _) (Or.inl rfl) (fun _ _ e => by obtain ⟨u, D1, e1, e2, e3⟩ := e; subst e1; subst e2; exact kk u D1 e3)
theorem Z_Si4 {v1 v2 v3 v4 : Value} {Φ : Int32 → Mem → Prop} (hd : decode j.2.1 pc = .ok (.invokestatic idx, 3)) (hn : pc + 3 = nx) (hl0 : ML j.1.cls idx j') (hj : KJ j' 4) (hv : Cond.static j'.1 ∈ big) (hE : Rix d' j' [v1, v2, v3, v4] D Φ) (hd' : d' < d) (hcat : (rest.map fun v => v.category).sum ≤ 8) (kk : ∀ (u : Int32) (D' : Mem), Φ u D' → X d 138 j nx ls (.int u :: rest) (138, P0, D') Q) : X d 138 j pc ls (v4 :: v3 :: v2 :: v1 :: rest) (138, P0, D) Q := X_callS hd hn hl0 hj hv hE rfl hd' rfl hcat (Nat.le_refl _) (Nat.le_refl _) (Or.inl rfl) (fun _ _ e => by obtain ⟨u, D1, e1, e2, e3⟩ := e; subst e1; subst e2; exact kk u D1 e3)
theorem Z_Sl2 {v1 v2 : Value} {Φ : Int64 → Mem → Prop} (hd : decode j.2.1 pc = .ok (.invokestatic idx, 3)) (hn : pc + 3 = nx) (hl0 : ML j.1.cls idx j') (hj : KJ j' 2) (hv : Cond.static j'.1 ∈ big) (hE : Rlx d' j' [v1, v2] D Φ) (hd' : d' < d) (hcat : (rest.map fun v => v.category).sum ≤ 8) (kk : ∀ (u : Int64) (D' : Mem), Φ u D' → X d 138 j nx ls (.long u :: rest) (138, P0, D') Q) : X d 138 j pc ls (v2 :: v1 :: rest) (138, P0, D) Q := X_callS hd hn hl0 hj hv hE rfl hd' rfl hcat (Nat.le_refl _) (Nat.le_refl _) (Or.inl rfl) (fun _ _ e => by obtain ⟨u, D1, e1, e2, e3⟩ := e; subst e1; subst e2; exact kk u D1 e3)
theorem Z_Sl3 {v1 v2 v3 : Value} {Φ : Int64 → Mem → Prop} (hd : decode j.2.1 pc = .ok (.invokestatic idx, 3)) (hn : pc + 3 = nx) (hl0 : ML j.1.cls idx j') (hj : KJ j' 3) (hv : Cond.static j'.1 ∈ big) (hE : Rlx d' j' [v1, v2, v3] D Φ) (hd' : d' < d) (hcat : (rest.map fun v => v.category).sum ≤ 8) (kk : ∀ (u : Int64) (D' : Mem), Φ u D' → X d 138 j nx ls (.long u :: rest) (138, P0, D') Q) : X d 138 j pc ls (v3 :: v2 :: v1 :: rest) (138, P0, D) Q := X_callS hd hn hl0 hj hv hE rfl hd' rfl hcat (Nat.le_refl _) (Nat.le_refl _) (Or.inl rfl) (fun _ _ e => by obtain ⟨u, D1, e1, e2, e3⟩ := e; subst e1; subst e2; exact kk u D1 e3)
theorem Z_Sv2 {v1 v2 : Value} {Φ : Mem → Prop} (hd : decode j.2.1 pc = .ok (.invokestatic idx, 3)) (hn : pc + 3 = nx) (hl0 : ML j.1.cls idx j') (hj : KJ j' 2) (hv : Cond.static j'.1 ∈ big) (hE : Rvx d' j' [v1, v2] D Φ) (hd' : d' < d) (hcat : (rest.map fun v => v.category).sum ≤ 8) (kk : ∀ (D' : Mem), Φ D' → X d 138 j nx ls (rest) (138, P0, D') Q) : X d 138 j pc ls (v2 :: v1 :: rest) (138, P0, D) Q := X_callS hd hn hl0 hj hv hE rfl hd' rfl hcat (Nat.le_refl _) (Nat.le_refl _) (Or.inl rfl) (fun _ _ e => by obtain ⟨D1, e1, e2, e3⟩ := e; subst e1; subst e2; exact kk D1 e3)
theorem Z_Sv3 {v1 v2 v3 : Value} {Φ : Mem → Prop} (hd : decode j.2.1 pc = .ok (.invokestatic idx, 3)) (hn : pc + 3 = nx) (hl0 : ML j.1.cls idx j') (hj : KJ j' 3) (hv : Cond.static j'.1 ∈ big) (hE : Rvx d' j' [v1, v2, v3] D Φ) (hd' : d' < d) (hcat : (rest.map fun v => v.category).sum ≤ 8) (kk : ∀ (D' : Mem), Φ D' → X d 138 j nx ls (rest) (138, P0, D') Q) : X d 138 j pc ls (v3 :: v2 :: v1 :: rest) (138, P0, D) Q := X_callS hd hn hl0 hj hv hE rfl hd' rfl hcat (Nat.le_refl _) (Nat.le_refl _) (Or.inl rfl) (fun _ _ e => by obtain ⟨D1, e1, e2, e3⟩ := e; subst e1; subst e2; exact kk D1 e3)
theorem Z_Vi0 {a ci : Nat} {T : u_T} {N : Nat} {Φ : Int32 → Mem → Prop} (hd : decode j.2.1 pc = .ok (.invokevirtual idx, 3)) (hn : pc + 3 = nx) (hl0 : ML j.1.cls idx j') (hj : KJ j' 0) (hv : Cond.instanceMethod j'.1 ∈ big ∧ Cond.selects j'.1.cls j'.1 j'.1 ∈ big) (hE : Rix d' j' (.ref a :: []) D Φ) (ha : a < 138) (hc : (lay a).1 = ci) (hc8 : ci < 8) (hcl : vwCl[ci]? = some (j'.1.cls, T, N)) (hd' : d' < d) (hcat : (rest.map fun v => v.category).sum ≤ 8) (kk : ∀ (u : Int32) (D' : Mem), Φ u D' → X d 138 j nx ls (.int u :: rest) (138, P0, D') Q) : X d 138 j pc ls (.ref a :: rest) (138, P0, D) Q := X_callV hd hn hl0 hj hv ha hc hc8 hcl hE rfl hd' rfl hcat (Nat.le_refl _) (Nat.le_refl _) (Or.inl rfl) (fun _ _ e => by obtain ⟨u, D1, e1, e2, e3⟩ := e; subst e1; subst e2; exact kk u D1 e3)
theorem Z_Vi1 {a ci : Nat} {T : u_T} {N : Nat} {v1 : Value} {Φ : Int32 → Mem → Prop} (hd : decode j.2.1 pc = .ok (.invokevirtual idx, 3)) (hn : pc + 3 = nx) (hl0 : ML j.1.cls idx j') (hj : KJ j' 1) (hv : Cond.instanceMethod j'.1 ∈ big ∧ Cond.selects j'.1.cls j'.1 j'.1 ∈ big) (hE : Rix d' j' (.ref a :: [v1]) D Φ) (ha : a < 138) (hc : (lay a).1 = ci) (hc8 : ci < 8) (hcl : vwCl[ci]? = some (j'.1.cls, T, N)) (hd' : d' < d) (hcat : (rest.map fun v => v.category).sum ≤ 8) (kk : ∀ (u : Int32) (D' : Mem), Φ u D' → X d 138 j nx ls (.int u :: rest) (138, P0, D') Q) : X d 138 j pc ls (v1 :: .ref a :: rest) (138, P0, D) Q := X_callV hd hn hl0 hj hv ha hc hc8 hcl hE rfl hd' rfl hcat (Nat.le_refl _) (Nat.le_refl _) (Or.inl rfl) (fun _ _ e => by obtain ⟨u, D1, e1, e2, e3⟩ := e; subst e1; subst e2; exact kk u D1 e3)
theorem Z_Vi2 {a ci : Nat} {T : u_T} {N : Nat} {v1 v2 : Value} {Φ : Int32 → Mem → Prop} (hd : decode j.2.1 pc = .ok (.invokevirtual idx, 3)) (hn : pc + 3 = nx) (hl0 : ML j.1.cls idx j') (hj : KJ j' 2) (hv : Cond.instanceMethod j'.1 ∈ big ∧ Cond.selects j'.1.cls j'.1 j'.1 ∈ big) (hE : Rix d' j' (.ref a :: [v1, v2]) D Φ) (ha : a < 138) (hc : (lay a).1 = ci) (hc8 : ci < 8) (hcl : vwCl[ci]? = some (j'.1.cls, T, N)) (hd' : d' < d) (hcat : (rest.map fun v => v.category).sum ≤ 8) (kk : ∀ (u : Int32) (D' : Mem), Φ u D' → X d 138 j nx ls (.int u :: rest) (138, P0, D') Q) : X d 138 j pc ls (v2 :: v1 :: .ref a :: rest) (138, P0, D) Q := X_callV hd hn hl0 hj hv ha hc hc8 hcl hE rfl hd' rfl hcat (Nat.le_refl _) (Nat.le_refl _) (Or.inl rfl) (fun _ _ e => by obtain ⟨u, D1, e1, e2, e3⟩ := e; subst e1; subst e2; exact kk u D1 e3)
theorem Z_Vi3 {a ci : Nat} {T : u_T} {N : Nat} {v1 v2 v3 : Value} {Φ : Int32 → Mem → Prop} (hd : decode j.2.1 pc = .ok (.invokevirtual idx, 3)) (hn : pc + 3 = nx) (hl0 : ML j.1.cls idx j') (hj : KJ j' 3) (hv : Cond.instanceMethod j'.1 ∈ big ∧ Cond.selects j'.1.cls j'.1 j'.1 ∈ big) (hE : Rix d' j' (.ref a :: [v1, v2, v3]) D Φ) (ha : a < 138) (hc : (lay a).1 = ci) (hc8 : ci < 8) (hcl : vwCl[ci]? = some (j'.1.cls, T, N)) (hd' : d' < d) (hcat : (rest.map fun v => v.category).sum ≤ 8) (kk : ∀ (u : Int32) (D' : Mem), Φ u D' → X d 138 j nx ls (.int u :: rest) (138, P0, D') Q) : X d 138 j pc ls (v3 :: v2 :: v1 :: .ref a :: rest) (138, P0, D) Q := X_callV hd hn hl0 hj hv ha hc hc8 hcl hE rfl hd' rfl hcat (Nat.le_refl _) (Nat.le_refl _) (Or.inl rfl) (fun _ _ e => by obtain ⟨u, D1, e1, e2, e3⟩ := e; subst e1; subst e2; exact kk u D1 e3)
theorem Z_Vi4 {a ci : Nat} {T : u_T} {N : Nat} {v1 v2 v3 v4 : Value} {Φ : Int32 → Mem → Prop} (hd : decode j.2.1 pc = .ok (.invokevirtual idx, 3)) (hn : pc + 3 = nx) (hl0 : ML j.1.cls idx j') (hj : KJ j' 4) (hv : Cond.instanceMethod j'.1 ∈ big ∧ Cond.selects j'.1.cls j'.1 j'.1 ∈ big) (hE : Rix d' j' (.ref a :: [v1, v2, v3, v4]) D Φ) (ha : a < 138) (hc : (lay a).1 = ci) (hc8 : ci < 8) (hcl : vwCl[ci]? = some (j'.1.cls, T, N)) (hd' : d' < d) (hcat : (rest.map fun v => v.category).sum ≤ 8) (kk : ∀ (u : Int32) (D' : Mem), Φ u D' → X d 138 j nx ls (.int u :: rest) (138, P0, D') Q) : X d 138 j pc ls (v4 :: v3 :: v2 :: v1 :: .ref a :: rest) (138, P0, D) Q := X_callV hd hn hl0 hj hv ha hc hc8 hcl hE rfl hd' rfl hcat (Nat.le_refl _) (Nat.le_refl _) (Or.inl rfl) (fun _ _ e => by obtain ⟨u, D1, e1, e2, e3⟩ := e; subst e1; subst e2; exact kk u D1 e3)
theorem Z_Vi5 {a ci : Nat} {T : u_T} {N : Nat} {v1 v2 v3 v4 v5 : Value} {Φ : Int32 → Mem → Prop} (hd : decode j.2.1 pc = .ok (.invokevirtual idx, 3)) (hn : pc + 3 = nx) (hl0 : ML j.1.cls idx j') (hj : KJ j' 5) (hv : Cond.instanceMethod j'.1 ∈ big ∧ Cond.selects j'.1.cls j'.1 j'.1 ∈ big) (hE : Rix d' j' (.ref a :: [v1, v2, v3, v4, v5]) D Φ) (ha : a < 138) (hc : (lay a).1 = ci) (hc8 : ci < 8) (hcl : vwCl[ci]? = some (j'.1.cls, T, N)) (hd' : d' < d) (hcat : (rest.map fun v => v.category).sum ≤ 8) (kk : ∀ (u : Int32) (D' : Mem), Φ u D' → X d 138 j nx ls (.int u :: rest) (138, P0, D') Q) : X d 138 j pc ls (v5 :: v4 :: v3 :: v2 :: v1 :: .ref a :: rest) (138, P0, D) Q := X_callV hd hn hl0 hj hv ha hc hc8 hcl hE rfl hd' rfl hcat (Nat.le_refl _) (Nat.le_refl _) (Or.inl rfl) (fun _ _ e => by obtain ⟨u, D1, e1, e2, e3⟩ := e; subst e1; subst e2; exact kk u D1 e3)
theorem Z_Vl1 {a ci : Nat} {T : u_T} {N : Nat} {v1 : Value} {Φ : Int64 → Mem → Prop} (hd : decode j.2.1 pc = .ok (.invokevirtual idx, 3)) (hn : pc + 3 = nx) (hl0 : ML j.1.cls idx j') (hj : KJ j' 1) (hv : Cond.instanceMethod j'.1 ∈ big ∧ Cond.selects j'.1.cls j'.1 j'.1 ∈ big) (hE : Rlx d' j' (.ref a :: [v1]) D Φ) (ha : a < 138) (hc : (lay a).1 = ci) (hc8 : ci < 8) (hcl : vwCl[ci]? = some (j'.1.cls, T, N)) (hd' : d' < d) (hcat : (rest.map fun v => v.category).sum ≤ 8) (kk : ∀ (u : Int64) (D' : Mem), Φ u D' → X d 138 j nx ls (.long u :: rest) (138, P0, D') Q) : X d 138 j pc ls (v1 :: .ref a :: rest) (138, P0, D) Q := X_callV hd hn hl0 hj hv ha hc hc8 hcl hE rfl hd' rfl hcat (Nat.le_refl _) (Nat.le_refl _) (Or.inl rfl) (fun _ _ e => by obtain ⟨u, D1, e1, e2, e3⟩ := e; subst e1; subst e2; exact kk u D1 e3)
theorem Z_Vl2 {a ci : Nat} {T : u_T} {N : Nat} {v1 v2 : Value} {Φ : Int64 → Mem → Prop} (hd : decode j.2.1 pc = .ok (.invokevirtual idx, 3)) (hn : pc + 3 = nx) (hl0 : ML j.1.cls idx j') (hj : KJ j' 2) (hv : Cond.instanceMethod j'.1 ∈ big ∧ Cond.selects j'.1.cls j'.1 j'.1 ∈ big) (hE : Rlx d' j' (.ref a :: [v1, v2]) D Φ) (ha : a < 138) (hc : (lay a).1 = ci) (hc8 : ci < 8) (hcl : vwCl[ci]? = some (j'.1.cls, T, N)) (hd' : d' < d) (hcat : (rest.map fun v => v.category).sum ≤ 8) (kk : ∀ (u : Int64) (D' : Mem), Φ u D' → X d 138 j nx ls (.long u :: rest) (138, P0, D') Q) : X d 138 j pc ls (v2 :: v1 :: .ref a :: rest) (138, P0, D) Q := X_callV hd hn hl0 hj hv ha hc hc8 hcl hE rfl hd' rfl hcat (Nat.le_refl _) (Nat.le_refl _) (Or.inl rfl) (fun _ _ e => by obtain ⟨u, D1, e1, e2, e3⟩ := e; subst e1; subst e2; exact kk u D1 e3)
theorem Z_Vl4 {a ci : Nat} {T : u_T} {N : Nat} {v1 v2 v3 v4 : Value} {Φ : Int64 → Mem → Prop} (hd : decode j.2.1 pc = .ok (.invokevirtual idx, 3)) (hn : pc + 3 = nx) (hl0 : ML j.1.cls idx j') (hj : KJ j' 4) (hv : Cond.instanceMethod j'.1 ∈ big ∧ Cond.selects j'.1.cls j'.1 j'.1 ∈ big) (hE : Rlx d' j' (.ref a :: [v1, v2, v3, v4]) D Φ) (ha : a < 138) (hc : (lay a).1 = ci) (hc8 : ci < 8) (hcl : vwCl[ci]? = some (j'.1.cls, T, N)) (hd' : d' < d) (hcat : (rest.map fun v => v.category).sum ≤ 8) (kk : ∀ (u : Int64) (D' : Mem), Φ u D' → X d 138 j nx ls (.long u :: rest) (138, P0, D') Q) : X d 138 j pc ls (v4 :: v3 :: v2 :: v1 :: .ref a :: rest) (138, P0, D) Q := X_callV hd hn hl0 hj hv ha hc hc8 hcl hE rfl hd' rfl hcat (Nat.le_refl _) (Nat.le_refl _) (Or.inl rfl) (fun _ _ e => by obtain ⟨u, D1, e1, e2, e3⟩ := e; subst e1; subst e2; exact kk u D1 e3)
theorem Z_Vr0 {a ci : Nat} {T : u_T} {N : Nat} {Φ : Nat → Mem → Prop} (hd : decode j.2.1 pc = .ok (.invokevirtual idx, 3)) (hn : pc + 3 = nx) (hl0 : ML j.1.cls idx j') (hj : KJ j' 0) (hv : Cond.instanceMethod j'.1 ∈ big ∧ Cond.selects j'.1.cls j'.1 j'.1 ∈ big) (hE : Rrx d' j' (.ref a :: []) D Φ) (ha : a < 138) (hc : (lay a).1 = ci) (hc8 : ci < 8) (hcl : vwCl[ci]? = some (j'.1.cls, T, N)) (hd' : d' < d) (hcat : (rest.map fun v => v.category).sum ≤ 8) (kk : ∀ (u : Nat) (D' : Mem), Φ u D' → X d 138 j nx ls (.ref u :: rest) (138, P0, D') Q) : X d 138 j pc ls (.ref a :: rest) (138, P0, D) Q := X_callV hd hn hl0 hj hv ha hc hc8 hcl hE rfl hd' rfl hcat (Nat.le_refl _) (Nat.le_refl _) (Or.inl rfl) (fun _ _ e => by obtain ⟨u, D1, e1, e2, e3⟩ := e; subst e1; subst e2; exact kk u D1 e3)
theorem Z_Vr1 {a ci : Nat} {T : u_T} {N : Nat} {v1 : Value} {Φ : Nat → Mem → Prop} (hd : decode j.2.1 pc = .ok (.invokevirtual idx, 3)) (hn : pc + 3 = nx) (hl0 : ML j.1.cls idx j') (hj : KJ j' 1) (hv : Cond.instanceMethod j'.1 ∈ big ∧ Cond.selects j'.1.cls j'.1 j'.1 ∈ big) (hE : Rrx d' j' (.ref a :: [v1]) D Φ) (ha : a < 138) (hc : (lay a).1 = ci) (hc8 : ci < 8) (hcl : vwCl[ci]? = some (j'.1.cls, T, N)) (hd' : d' < d) (hcat : (rest.map fun v => v.category).sum ≤ 8) (kk : ∀ (u : Nat) (D' : Mem), Φ u D' → X d 138 j nx ls (.ref u :: rest) (138, P0, D') Q) : X d 138 j pc ls (v1 :: .ref a :: rest) (138, P0, D) Q := X_callV hd hn hl0 hj hv ha hc hc8 hcl hE rfl hd' rfl hcat (Nat.le_refl _) (Nat.le_refl _) (Or.inl rfl) (fun _ _ e => by obtain ⟨u, D1, e1, e2, e3⟩ := e; subst e1; subst e2; exact kk u D1 e3)
theorem Z_Vv0 {a ci : Nat} {T : u_T} {N : Nat} {Φ : Mem → Prop} (hd : decode j.2.1 pc = .ok (.invokevirtual idx, 3)) (hn : pc + 3 = nx) (hl0 : ML j.1.cls idx j') (hj : KJ j' 0) (hv : Cond.instanceMethod j'.1 ∈ big ∧ Cond.selects j'.1.cls j'.1 j'.1 ∈ big) (hE : Rvx d' j' (.ref a :: []) D Φ) (ha : a < 138) (hc : (lay a).1 = ci) (hc8 : ci < 8) (hcl : vwCl[ci]? = some (j'.1.cls, T, N)) (hd' : d' < d) (hcat : (rest.map fun v => v.category).sum ≤ 8) (kk : ∀ (D' : Mem), Φ D' → X d 138 j nx ls (rest) (138, P0, D') Q) : X d 138 j pc ls (.ref a :: rest) (138, P0, D) Q := X_callV hd hn hl0 hj hv ha hc hc8 hcl hE rfl hd' rfl hcat (Nat.le_refl _) (Nat.le_refl _) (Or.inl rfl) (fun _ _ e => by obtain ⟨D1, e1, e2, e3⟩ := e; subst e1; subst e2; exact kk D1 e3)
theorem Z_Vv1 {a ci : Nat} {T : u_T} {N : Nat} {v1 : Value} {Φ : Mem → Prop} (hd : decode j.2.1 pc = .ok (.invokevirtual idx, 3)) (hn : pc + 3 = nx) (hl0 : ML j.1.cls idx j') (hj : KJ j' 1) (hv : Cond.instanceMethod j'.1 ∈ big ∧ Cond.selects j'.1.cls j'.1 j'.1 ∈ big) (hE : Rvx d' j' (.ref a :: [v1]) D Φ) (ha : a < 138) (hc : (lay a).1 = ci) (hc8 : ci < 8) (hcl : vwCl[ci]? = some (j'.1.cls, T, N)) (hd' : d' < d) (hcat : (rest.map fun v => v.category).sum ≤ 8) (kk : ∀ (D' : Mem), Φ D' → X d 138 j nx ls (rest) (138, P0, D') Q) : X d 138 j pc ls (v1 :: .ref a :: rest) (138, P0, D) Q := X_callV hd hn hl0 hj hv ha hc hc8 hcl hE rfl hd' rfl hcat (Nat.le_refl _) (Nat.le_refl _) (Or.inl rfl) (fun _ _ e => by obtain ⟨D1, e1, e2, e3⟩ := e; subst e1; subst e2; exact kk D1 e3)
theorem Z_Vv2 {a ci : Nat} {T : u_T} {N : Nat} {v1 v2 : Value} {Φ : Mem → Prop} (hd : decode j.2.1 pc = .ok (.invokevirtual idx, 3)) (hn : pc + 3 = nx) (hl0 : ML j.1.cls idx j') (hj : KJ j' 2) (hv : Cond.instanceMethod j'.1 ∈ big ∧ Cond.selects j'.1.cls j'.1 j'.1 ∈ big) (hE : Rvx d' j' (.ref a :: [v1, v2]) D Φ) (ha : a < 138) (hc : (lay a).1 = ci) (hc8 : ci < 8) (hcl : vwCl[ci]? = some (j'.1.cls, T, N)) (hd' : d' < d) (hcat : (rest.map fun v => v.category).sum ≤ 8) (kk : ∀ (D' : Mem), Φ D' → X d 138 j nx ls (rest) (138, P0, D') Q) : X d 138 j pc ls (v2 :: v1 :: .ref a :: rest) (138, P0, D) Q := X_callV hd hn hl0 hj hv ha hc hc8 hcl hE rfl hd' rfl hcat (Nat.le_refl _) (Nat.le_refl _) (Or.inl rfl) (fun _ _ e => by obtain ⟨D1, e1, e2, e3⟩ := e; subst e1; subst e2; exact kk D1 e3)
theorem Z_Vv4 {a ci : Nat} {T : u_T} {N : Nat} {v1 v2 v3 v4 : Value} {Φ : Mem → Prop} (hd : decode j.2.1 pc = .ok (.invokevirtual idx, 3)) (hn : pc + 3 = nx) (hl0 : ML j.1.cls idx j') (hj : KJ j' 4) (hv : Cond.instanceMethod j'.1 ∈ big ∧ Cond.selects j'.1.cls j'.1 j'.1 ∈ big) (hE : Rvx d' j' (.ref a :: [v1, v2, v3, v4]) D Φ) (ha : a < 138) (hc : (lay a).1 = ci) (hc8 : ci < 8) (hcl : vwCl[ci]? = some (j'.1.cls, T, N)) (hd' : d' < d) (hcat : (rest.map fun v => v.category).sum ≤ 8) (kk : ∀ (D' : Mem), Φ D' → X d 138 j nx ls (rest) (138, P0, D') Q) : X d 138 j pc ls (v4 :: v3 :: v2 :: v1 :: .ref a :: rest) (138, P0, D) Q := X_callV hd hn hl0 hj hv ha hc hc8 hcl hE rfl hd' rfl hcat (Nat.le_refl _) (Nat.le_refl _) (Or.inl rfl) (fun _ _ e => by obtain ⟨D1, e1, e2, e3⟩ := e; subst e1; subst e2; exact kk D1 e3)
theorem Z_Vv7 {a ci : Nat} {T : u_T} {N : Nat} {v1 v2 v3 v4 v5 v6 v7 : Value} {Φ : Mem → Prop} (hd : decode j.2.1 pc = .ok (.invokevirtual idx, 3)) (hn : pc + 3 = nx) (hl0 : ML j.1.cls idx j') (hj : KJ j' 7) (hv : Cond.instanceMethod j'.1 ∈ big ∧ Cond.selects j'.1.cls j'.1 j'.1 ∈ big) (hE : Rvx d' j' (.ref a :: [v1, v2, v3, v4, v5, v6, v7]) D Φ) (ha : a < 138) (hc : (lay a).1 = ci) (hc8 : ci < 8) (hcl : vwCl[ci]? = some (j'.1.cls, T, N)) (hd' : d' < d) (hcat : (rest.map fun v => v.category).sum ≤ 8) (kk : ∀ (D' : Mem), Φ D' → X d 138 j nx ls (rest) (138, P0, D') Q) : X d 138 j pc ls (v7 :: v6 :: v5 :: v4 :: v3 :: v2 :: v1 :: .ref a :: rest) (138, P0, D) Q := X_callV hd hn hl0 hj hv ha hc hc8 hcl hE rfl hd' rfl hcat (Nat.le_refl _) (Nat.le_refl _) (Or.inl rfl) (fun _ _ e => by obtain ⟨D1, e1, e2, e3⟩ := e; subst e1; subst e2; exact kk D1 e3)
end ZROWS
/-! ## first places, counts -/
/-- the first place from i on, of n, at which p holds -/
def fst_ (p : Nat → Bool) : Nat → Nat → Option Nat
  | _, 0 => none
  | i, n + 1 => if p i = true then some i else fst_ p (i + 1) n
/-- a place, or -9 -/
def opI : Option Nat → Int32
  | none => -9
  | some k => nI k
theorem fst_some {p : Nat → Bool} : ∀ {n i k : Nat}, fst_ p i n = some k → i ≤ k ∧ k < i + n ∧ p k = true ∧ ∀ x, i ≤ x → x < k → p x = false := by
  intro n
  induction n with
  | zero => intro i k h; cases h
  | succ n ih =>
    intro i k h
    unfold fst_ at h
    by_cases hp : p i = true
    · rw [if_pos hp] at h
      cases h
      exact ⟨Nat.le_refl _, by omega, hp, fun x h1 h2 => by omega⟩
    · rw [if_neg hp] at h
      obtain ⟨h1, h2, h3, h4⟩ := ih h
      refine ⟨by omega, by omega, h3, fun x g1 g2 => ?_⟩
      by_cases hx : x = i
      · subst hx; simpa using hp
      · exact h4 x (by omega) g2
theorem fst_none {p : Nat → Bool} : ∀ {n i : Nat}, fst_ p i n = none → ∀ x, i ≤ x → x < i + n → p x = false := by
  intro n
  induction n with
  | zero => intro i h x h1 h2; omega
  | succ n ih =>
    intro i h x h1 h2
    unfold fst_ at h
    by_cases hp : p i = true
    · rw [if_pos hp] at h; cases h
    · rw [if_neg hp] at h
      by_cases hx : x = i
      · subst hx; simpa using hp
      · exact ih h x (by omega) (by omega)
theorem fst_intro {p : Nat → Bool} {n i k : Nat} (h1 : i ≤ k) (h2 : k < i + n) (h3 : p k = true) (h4 : ∀ x, i ≤ x → x < k → p x = false) : fst_ p i n = some k := by
  cases h : fst_ p i n with
  | none => rw [fst_none h k h1 h2] at h3; cases h3
  | some m =>
    obtain ⟨g1, g2, g3, g4⟩ := fst_some h
    by_cases hm : m < k
    · rw [h4 m g1 hm] at g3; cases g3
    · by_cases hm2 : k < m
      · rw [g4 k h1 hm2] at h3; cases h3
      · rw [show m = k by omega]
theorem fst_intro_none {p : Nat → Bool} {n i : Nat} (h : ∀ x, i ≤ x → x < i + n → p x = false) : fst_ p i n = none := by
  cases hh : fst_ p i n with
  | none => rfl
  | some m =>
    obtain ⟨g1, g2, g3, g4⟩ := fst_some hh
    rw [h m g1 g2] at g3; cases g3
theorem fst_congr {p q : Nat → Bool} {n i : Nat} (h : ∀ x, i ≤ x → x < i + n → p x = q x) : fst_ p i n = fst_ q i n := by
  induction n generalizing i with
  | zero => rfl
  | succ n ih =>
    unfold fst_
    rw [h i (Nat.le_refl _) (by omega), ih (fun x h1 h2 => h x (by omega) (by omega))]
theorem fst_step {p : Nat → Bool} {i n : Nat} (h : p i = false) : fst_ p i (n + 1) = fst_ p (i + 1) n := by
  rw [fst_, if_neg (by rw [h]; decide)]
theorem fst_hit {p : Nat → Bool} {i n : Nat} (h : p i = true) : fst_ p i (n + 1) = some i := by
  rw [fst_, if_pos h]
/-! ## segments, routes, paths, piles in the cells -/
/-- how many segments stand ahead of REST -/
def pl (s : List Nat) : Nat := (s.filter (fun x => decide (x ≠ 40))).length
theorem pl_le (s : List Nat) : pl s ≤ s.length := List.length_filter_le _ _
/-- the type of a segment: 0 .. 3 a letter, 4 low, 5 high, 6 any, 7 rest -/
def typ (x : Nat) : Nat := if x < 10 then x else 3 + x / 10
/-- a route's segments in its cells -/
def SEG (D : Mem) (r : Nat) (s : List Nat) : Prop := s.length ≤ 4 ∧ D r 1 = nI s.length ∧ D r 2 = nI (pl s) ∧ (∀ k, k < s.length → D (r + 1) k = nI (s.getD k 0)) ∧ ∀ x ∈ s, x ≤ 40
def RT (D : Mem) (r : Nat) (t : Bool) (R : Nat) (v m : Int32) (s : List Nat) : Prop := D r 6 = b2i t ∧ D r 3 = nI R ∧ D r 4 = v ∧ D r 5 = m ∧ SEG D r s
/-- letters in a path's cells -/
def LET (D : Mem) (p : Nat) (l : List Nat) : Prop := l.length ≤ 4 ∧ D p 1 = nI l.length ∧ (∀ k, k < l.length → D (p + 1) k = nI (l.getD k 0)) ∧ ∀ x ∈ l, x < 4
/-- numbers in a pile's cells -/
def PIL (D : Mem) (p : Nat) (l : List Nat) : Prop := l.length ≤ (lay (p + 1)).2 ∧ D p 1 = nI l.length ∧ ∀ k, k < l.length → D (p + 1) k = nI (l.getD k 0)
/-- only these cells differ -/
def Fr (S : Nat → Prop) (D D' : Mem) : Prop := ∀ b, ¬ S b → D' b = D b
theorem Fr.rf {S : Nat → Prop} {D : Mem} : Fr S D D := fun _ _ => rfl
theorem Fr.tr {S : Nat → Prop} {D D' D2 : Mem} (h : Fr S D D') (h2 : Fr S D' D2) : Fr S D D2 := fun b hb => (h2 b hb).trans (h b hb)
theorem Fr.mono {S T : Nat → Prop} {D D' : Mem} (h : Fr S D D') (hs : ∀ b, S b → T b) : Fr T D D' := fun b hb => h b (fun q => hb (hs b q))
theorem Fr.up {S : Nat → Prop} {D : Mem} {a i : Nat} {v : Int32} (h : S a) : Fr S D (up2 D a i v) := fun b hb => up2_ne (fun e => hb (e ▸ h))
theorem up2_same {D : Mem} {a i : Nat} {v : Int32} : up2 D a i v a i = v := by simp [up2]
theorem up2_other {D : Mem} {a b i k : Nat} {v : Int32} (h : ¬ (b = a ∧ k = i)) : up2 D a i v b k = D b k := by simp [up2, h]
theorem SEG.fr {D D' : Mem} {r : Nat} {s : List Nat} (h : SEG D r s) (h1 : D' r = D r) (h2 : D' (r + 1) = D (r + 1)) : SEG D' r s := by
  unfold SEG at *
  rw [h1, h2]; exact h
theorem RT.fr {D D' : Mem} {r R : Nat} {t : Bool} {v m : Int32} {s : List Nat} (h : RT D r t R v m s) (h1 : D' r = D r) (h2 : D' (r + 1) = D (r + 1)) : RT D' r t R v m s := by
  obtain ⟨a, b, c, d, e⟩ := h
  exact ⟨by rw [h1]; exact a, by rw [h1]; exact b, by rw [h1]; exact c, by rw [h1]; exact d, e.fr h1 h2⟩
theorem LET.fr {D D' : Mem} {p : Nat} {l : List Nat} (h : LET D p l) (h1 : D' p = D p) (h2 : D' (p + 1) = D (p + 1)) : LET D' p l := by
  unfold LET at *
  rw [h1, h2]; exact h
theorem PIL.fr {D D' : Mem} {p : Nat} {l : List Nat} (h : PIL D p l) (h1 : D' p = D p) (h2 : D' (p + 1) = D (p + 1)) : PIL D' p l := by
  unfold PIL at *
  rw [h1, h2]; exact h
