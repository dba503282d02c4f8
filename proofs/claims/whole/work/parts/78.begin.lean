/-! THE BEGINNING -/
def B0_ : Bk := (fun _ => 0, fun _ => 0, 0, fun _ => false, fun _ => 0, fun _ => 0, fun _ => 0, fun _ => [])
def S0_ : St := (B0_, B0_, false, [], [], fun _ => 0)
theorem begin2 {D : Mem} (hD : ∀ b, 104 ≤ b → b < 138 → D b = IM b) : INV2 D S0_ := by
  have z : ∀ b i, 104 ≤ b → b < 138 → D b i = 0 := fun b i h1 h2 => by rw [hD b h1 h2, im_104 h1]
  refine ⟨⟨fun i _ => ⟨z 106 i (by omega) (by omega), z 107 i (by omega) (by omega)⟩, z 104 9 (by omega) (by omega), fun i hi => absurd hi (Nat.not_lt_zero _)⟩, z 104 39 (by omega) (by omega), z 104 33 (by omega) (by omega), fun k hk => absurd hk (Nat.not_lt_zero _), z 104 50 (by omega) (by omega), fun k hk => absurd hk (Nat.not_lt_zero _), fun i _ _ => z 105 i (by omega) (by omega), fun q => absurd q (by decide)⟩
