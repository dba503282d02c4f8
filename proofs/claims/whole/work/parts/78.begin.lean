/-! THE BEGINNING -/
def B0_ : Bk := (fun _ => 0, fun _ => 0, 0, fun _ => false, fun _ => 0, fun _ => 0, fun _ => 0, fun _ => [])
def S0_ : St := (B0_, B0_, false, [], [], fun _ => 0)
theorem begin2 {D : Mem} (hD : ∀ b, 104 ≤ b → b < 138 → D b = IM b) : INV2 D S0_ := by
  have z : ∀ b i, 104 ≤ b → b < 138 → D b i = 0 := fun b i h1 h2 => by rw [hD b h1 h2, im_104 h1]
  refine ⟨⟨fun i _ => ⟨z 106 i (by omega) (by omega), z 107 i (by omega) (by omega)⟩, z 104 9 (by omega) (by omega), fun i hi => absurd hi (Nat.not_lt_zero _)⟩, z 104 39 (by omega) (by omega), z 104 33 (by omega) (by omega), fun k hk => absurd hk (Nat.not_lt_zero _), z 104 50 (by omega) (by omega), fun k hk => absurd hk (Nat.not_lt_zero _), fun i _ _ => z 105 i (by omega) (by omega), fun q => absurd q (by decide)⟩
theorem im_z {b i : Nat} (h : b ≠ 80 ∧ b ≠ 81 ∧ b ≠ 82 ∧ b ≠ 91) (hi : i ≠ 4 ∧ i ≠ 5 ∨ (lay b).1 ≠ 3) : IM b i = 0 := by
  unfold IM
  rw [if_neg (fun q => hi.elim (fun w => by omega) (fun w => w q.2.1)), if_neg (by omega), if_neg (by omega), if_neg (by omega), if_neg (by omega)]
theorem begin1 {D : Mem} (hD : ∀ b, b < 104 → D b = IM b) : INV1 D S0_ := by
  have z : ∀ b i, b < 104 → (b ≠ 80 ∧ b ≠ 81 ∧ b ≠ 82 ∧ b ≠ 91) → (i ≠ 4 ∧ i ≠ 5 ∨ (lay b).1 ≠ 3) → D b i = 0 := fun b i h1 h2 h3 => by rw [hD b h1]; exact im_z h2 h3
  have zb : ∀ b, b ≤ 53 → ZB D b := fun b hb i hi => Or.inl (z _ 6 (by unfold rt; omega) (by unfold rt; omega) (Or.inl (by omega)))
  have t : ∀ r, thN B0_ r = false := fun r => Bool.and_false _
  have e1 : PSf B0_ = ff2 := funext fun q => funext fun r => by unfold PSf; rw [t r]; rfl
  have e2 : ENf B0_ = ff2 := funext fun q => funext fun r => by unfold ENf AT_; rw [t r]; rfl
  have e3 : RSf B0_ = ff2 := funext fun q => funext fun r => by unfold RSf AT_; rw [t r]; rfl
  have e4 : MNf B0_ = ff2 := funext fun q => funext fun r => by unfold MNf AT_; rw [t r]; rfl
  have e5 : SVf B0_ = fun _ _ => false := funext fun q => funext fun r => by unfold SVf; rw [t r]; rfl
  have e6 : (fun r => thN B0_ r && mtB B0_ r) = fun _ => false := funext fun r => by rw [t r]; rfl
  have h0 : E0 D 3 := by
    refine ⟨?_, fun j hj => ⟨?_, fun b h1 h2 => z b j (by omega) (by omega) (Or.inr ?_), fun e he => ?_, ?_⟩⟩
    · rw [hD 80 (by omega)]; rfl
    · rw [hD 82 (by omega)]
      unfold IM
      rw [if_neg (fun q => absurd q.2.1 (by decide)), if_neg (by omega), if_pos ⟨rfl, hj⟩]
    · have : ∀ b, b < 87 → 83 ≤ b → (lay b).1 ≠ 3 := by decide
      exact this b (by omega) h1
    · rw [hD 81 (by omega)]
      unfold IM
      rw [if_neg (fun q => absurd q.2.1 (by decide)), if_pos ⟨rfl, by omega⟩]
    · rw [hD 91 (by omega)]
      unfold IM
      rw [if_neg (fun q => absurd q.2.1 (by decide)), if_neg (by omega), if_neg (by omega), if_pos ⟨rfl, hj⟩]
  have w : ∀ x, x < 3 → opI (wy B0_ 2 x) = -9 := by decide
  refine ⟨⟨⟨fun i _ => ⟨z 2 i (by omega) (by omega) (Or.inr (by decide)), z 3 i (by omega) (by omega) (Or.inr (by decide))⟩, z 1 4 (by omega) (by omega) (Or.inr (by decide)), Nat.zero_le _, fun i hi => absurd hi (Nat.not_lt_zero _)⟩, ⟨fun i _ => ⟨Nat.zero_le _, Nat.zero_le _⟩, Nat.zero_le _, fun i hi => absurd hi (Nat.not_lt_zero _)⟩, fun q => absurd q (by decide), zb 1 (by omega), zb 27 (by omega), zb 53 (by omega), fun i hi => absurd hi (Nat.not_lt_zero _), fun q => absurd q (by decide)⟩, ⟨z 0 9 (by omega) (by omega) (Or.inl (by omega)), ⟨Nat.zero_le _, z 96 1 (by omega) (by omega) (Or.inl (by omega)), fun k hk => absurd hk (Nat.not_lt_zero _)⟩, ⟨Nat.zero_le _, z 98 1 (by omega) (by omega) (Or.inl (by omega)), fun k hk => absurd hk (Nat.not_lt_zero _)⟩, fun i _ _ => z 103 i (by omega) (by omega) (Or.inr (by decide)), fun x hx => absurd hx List.not_mem_nil, fun x hx => absurd hx List.not_mem_nil⟩, ?_, fun i _ => ⟨z 89 i (by omega) (by omega) (Or.inr (by decide)), z 90 i (by omega) (by omega) (Or.inr (by decide)), Nat.zero_le _, Nat.zero_le _⟩, fun x hx => ((h0.2 x hx).2.2.2).trans (w x hx).symm, z 95 0 (by omega) (by omega) (Or.inl (by omega))⟩
  show TE D B0_ (nlG B0_ 10) (PSf B0_) (ENf B0_) (RSf B0_) (MNf B0_) (SVf B0_) (fun r => thN B0_ r && mtB B0_ r)
  rw [e1, e2, e3, e4, e5, e6]
  exact h0.te (fun v _ => z 88 v (by omega) (by omega) (Or.inr (by decide)))
