/-! CONSTRUCTORS: what they make -/
/-- the memory behind the constructors -/
def IM (b i : Nat) : Int32 :=
  if b < 104 ∧ (lay b).1 = 3 ∧ (i = 4 ∨ i = 5) then -9
  else if b = 81 ∧ i < 21 then -9
  else if b = 82 ∧ i < 3 then nI i
  else if b = 91 ∧ i < 3 then -9
  else if b = 80 ∧ i = 0 then 3
  else 0
/-- the object a has its first k pointers; what was made behind it is complete -/
def PGC (a k n : Nat) (σ0 σ : Wd) : Prop := σ.1 = n ∧ (∀ b, b < a → σ.2.1 b = σ0.2.1 b ∧ σ.2.2 b = σ0.2.2 b) ∧ (∀ i, σ.2.1 a i = if i < k then P0 a i else none) ∧ σ.2.2 a = (fun _ => 0) ∧ (∀ b, a < b → b < n → σ.2.1 b = P0 b ∧ σ.2.2 b = IM b) ∧ ∀ b, n ≤ b → σ.2.1 b = σ0.2.1 b ∧ σ.2.2 b = σ0.2.2 b
/-- a constructor of a made all up to m -/
def CON (a m : Nat) (σ0 σ : Wd) : Prop := σ.1 = m ∧ (∀ b, b < a → σ.2.1 b = σ0.2.1 b ∧ σ.2.2 b = σ0.2.2 b) ∧ (∀ b, a ≤ b → b < m → σ.2.1 b = P0 b ∧ σ.2.2 b = IM b) ∧ ∀ b, m ≤ b → σ.2.1 b = σ0.2.1 b ∧ σ.2.2 b = σ0.2.2 b
/-- a cell just made -/
def NEWC (a : Nat) (σ : Wd) : Prop := σ.1 = a + 1 ∧ σ.2.1 a = (fun _ => none) ∧ σ.2.2 a = (fun _ => 0)
theorem NEWC.pg {a : Nat} {σ : Wd} (h : NEWC a σ) : PGC a 0 (a + 1) σ σ := ⟨h.1, fun _ _ => ⟨rfl, rfl⟩, fun i => by rw [h.2.1, if_neg (Nat.not_lt_zero _)], h.2.2, fun b h1 h2 => by omega, fun _ _ => ⟨rfl, rfl⟩⟩
theorem NEWC.of {σ : Wd} {n : Nat} (h : σ.1 = n) : NEWC n (newW σ) := by
  subst h
  exact ⟨rfl, if_pos rfl, if_pos rfl⟩
theorem nw_ne {σ : Wd} {b : Nat} (h : b ≠ σ.1) : (newW σ).2.1 b = σ.2.1 b ∧ (newW σ).2.2 b = σ.2.2 b := ⟨if_neg h, if_neg h⟩
theorem nw_eq {σ : Wd} : (newW σ).2.1 σ.1 = (fun _ => none) ∧ (newW σ).2.2 σ.1 = (fun _ => 0) := ⟨if_pos rfl, if_pos rfl⟩
theorem PGC.put {a k n m : Nat} {σ0 σ σ1 : Wd} (h : PGC a k n σ0 σ) (han : a < n) (hnm : n < m) (hP : P0 a k = some n) (g : CON n m (newW σ) σ1) : PGC a (k + 1) m σ0 (σ1.1, up2 σ1.2.1 a k (some n), σ1.2.2) := by
  obtain ⟨h1, h2, h3, h4, h5, h6⟩ := h
  obtain ⟨g1, g2, g3, g4⟩ := g
  have e : ∀ b, b ≠ a → up2 σ1.2.1 a k (some n) b = σ1.2.1 b := fun b hb => up2_ne hb
  have low : ∀ b, b < n → σ1.2.1 b = σ.2.1 b ∧ σ1.2.2 b = σ.2.2 b := fun b hb => by
    have q := nw_ne (σ := σ) (b := b) (by omega)
    exact ⟨(g2 b hb).1.trans q.1, (g2 b hb).2.trans q.2⟩
  refine ⟨g1, fun b hb => ⟨(e b (by omega)).trans ((low b (by omega)).1.trans (h2 b hb).1), (low b (by omega)).2.trans (h2 b hb).2⟩, fun i => ?_, (low a han).2.trans h4, fun b x y => ?_, fun b hb => ?_⟩
  · by_cases hi : i = k
    · subst hi
      rw [if_pos (Nat.lt_succ_self _), hP]
      show (if a = a ∧ i = i then some n else _) = some n
      exact if_pos ⟨rfl, rfl⟩
    · show (if a = a ∧ i = k then some n else σ1.2.1 a i) = _
      rw [if_neg (fun q => hi q.2), (low a han).1, h3 i]
      by_cases q : i < k
      · rw [if_pos q, if_pos (by omega)]
      · rw [if_neg q, if_neg (by omega)]
  · by_cases q : b < n
    · exact ⟨(e b (by omega)).trans ((low b q).1.trans (h5 b x q).1), (low b q).2.trans (h5 b x q).2⟩
    · exact ⟨(e b (by omega)).trans (g3 b (by omega) y).1, (g3 b (by omega) y).2⟩
  · have q := nw_ne (σ := σ) (b := b) (by omega)
    exact ⟨(e b (by omega)).trans ((g4 b hb).1.trans (q.1.trans (h6 b (by omega)).1)), (g4 b hb).2.trans (q.2.trans (h6 b (by omega)).2)⟩
/-- an array alone -/
theorem con_arr {n : Nat} {σ : Wd} (h : σ.1 = n) (hP : P0 n = fun _ => none) (hI : IM n = fun _ => 0) : CON n (n + 1) (newW σ) (newW σ) := by
  subst h
  refine ⟨rfl, fun _ _ => ⟨rfl, rfl⟩, fun b x y => ?_, fun _ _ => ⟨rfl, rfl⟩⟩
  obtain rfl : b = σ.1 := by omega
  exact ⟨nw_eq.1.trans hP.symm, nw_eq.2.trans hI.symm⟩
theorem PGC.con {a k n : Nat} {σ0 σ : Wd} (h : PGC a k n σ0 σ) (han : a < n) (hP : ∀ i, k ≤ i → P0 a i = none) (hI : IM a = fun _ => 0) : CON a n σ0 σ := by
  obtain ⟨h1, h2, h3, h4, h5, h6⟩ := h
  refine ⟨h1, h2, fun b x y => ?_, h6⟩
  by_cases e : b = a
  · subst e
    refine ⟨funext fun i => ?_, h4.trans hI.symm⟩
    rw [h3 i]
    by_cases q : i < k
    · rw [if_pos q]
    · rw [if_neg q, hP i (by omega)]
  · exact h5 b (by omega) y
section
variable {d k pc nx : Nat} {j : MI} {ls : List (Option Value)} {σ σ0 : Wd} {Q : List Value → Wd → Prop}
theorem C_arr {a kf n ci N L idx pc2 : Nat} {C : String} {T : u_T} {ty : Nat → FieldType} {v : Int32} (h : PGC a kf n σ0 σ) (hd1 : decode j.2.1 pc = .ok (.newarray .int, 2)) (hn1 : pc + 2 = pc2) (hd2 : decode j.2.1 pc2 = .ok (.putfield idx, 3)) (hn : pc2 + 3 = nx) (hnn : ¬ v < 0) (hN : v.toNatClampNeg = L) (hl : lay n = (8, L)) (hle : L ≤ 1000) (hk : n < k) (hcf : CF ci C T N ty) (hkf : kf < N) (hw : Cond.fieldLink j.1.cls idx C (T kf).2.1 (T kf).2.2.1 ∈ big) (hj : j.1.cls = C) (hin : j.1.name = "<init>") (hp : isP ci kf = true) (hc : (lay a).1 = ci) (hP : P0 a kf = some n) (hP0 : P0 n = fun _ => none) (hI : IM n = fun _ => 0) (hls : ∀ v, some v ∈ ls → okR n (n + 1) v) (han : a < n) (kk : ∀ σ', PGC a (kf + 1) (n + 1) σ0 σ' → X d k j nx ls [] σ' Q) : X d k j pc ls [.int v, .ref a] σ Q := by
  have e := h.1
  subst e
  refine X_newa hd1 hn1 ac_int hnn hN hl hle hk ⟨fun w hw => ?_, hls⟩ ?_
  · rw [List.mem_singleton] at hw
    subst hw
    show ¬ (σ.1 ≤ a ∧ a < σ.1 + 1)
    omega
  · refine X_putP hd2 hn hcf hkf hw hj hin hp (show a < σ.1 + 1 by omega) (show σ.1 < σ.1 + 1 by omega) hc ?_
    exact kk _ (h.put han (Nat.lt_succ_self _) hP (con_arr rfl hP0 hI))
theorem C_obj {a kf n m ci ci2 N N2 idx idx2 idx3 pc2 pc3 pc4 d' : Nat} {j' : MI} {C C2 : String} {T T2 : u_T} {ty ty2 : Nat → FieldType} (h : PGC a kf n σ0 σ) (hd1 : decode j.2.1 pc = .ok (.new idx, 3)) (hn1 : pc + 3 = pc2) (hd2 : decode j.2.1 pc2 = .ok (.dup, 1)) (hn2 : pc2 + 1 = pc3) (hd3 : decode j.2.1 pc3 = .ok (.invokespecial idx2, 3)) (hn3 : pc3 + 3 = pc4) (hd4 : decode j.2.1 pc4 = .ok (.putfield idx3, 3)) (hn : pc4 + 3 = nx)
    (hcf2 : CF ci2 C2 T2 N2 ty2) (h1 : Cond.classLink j.1.cls idx C2 ∈ big) (h2 : Cond.instantiable C2 N2 ∈ big ∧ Cond.initialized C2 ∈ big) (hl : (lay n).1 = ci2) (hnk : n < k)
    (hl0 : ML j.1.cls idx2 j') (hj' : KJ j' 0) (hv : Cond.instanceMethod j'.1 ∈ big) (hnm : j'.1.name = "<init>") (hret : j'.2.2.2 = none) (hE : ∀ τ, NEWC n τ → E d' m j' [.ref n] τ (fun vs σ' => vs = [] ∧ CON n m τ σ')) (hd' : d' < d) (hm : n + 1 ≤ m) (hm2 : m ≤ k)
    (hcf : CF ci C T N ty) (hkf : kf < N) (hw : Cond.fieldLink j.1.cls idx3 C (T kf).2.1 (T kf).2.2.1 ∈ big) (hj : j.1.cls = C) (hin : j.1.name = "<init>") (hp : isP ci kf = true) (hc : (lay a).1 = ci) (hP : P0 a kf = some n) (hls : ∀ v, some v ∈ ls → okR n m v) (han : a < n) (kk : ∀ σ', PGC a (kf + 1) m σ0 σ' → X d k j nx ls [] σ' Q) : X d k j pc ls [.ref a] σ Q := by
  have e := h.1
  subst e
  have ok1 : ∀ v, some v ∈ ls → okR σ.1 (σ.1 + 1) v := fun v q => by
    have := hls v q
    cases v <;> first | trivial | (show ¬ _; intro w; exact this ⟨w.1, Nat.lt_of_lt_of_le w.2 hm⟩)
  have ok2 : ∀ v, some v ∈ ls → okR (σ.1 + 1) m v := fun v q => by
    have := hls v q
    cases v <;> first | trivial | (show ¬ _; intro w; exact this ⟨Nat.le_of_succ_le w.1, w.2⟩)
  refine X_new hd1 hn1 hcf2 h1 h2.1 h2.2 hl hnk ⟨fun w hw => ?_, ok1⟩ ?_
  · rw [List.mem_singleton] at hw
    subst hw
    show ¬ (σ.1 ≤ a ∧ a < σ.1 + 1)
    omega
  · refine X_dup hd2 hn2 rfl ?_
    refine X_callI (a := σ.1) (As := []) (rest := [.ref σ.1, .ref a]) (Q' := fun vs σ' => vs = [] ∧ CON σ.1 m (newW σ) σ') hd3 hn3 hl0 hj' hv hnm hret (hE _ (NEWC.of rfl)) rfl hd' rfl (Nat.le_of_ble_eq_true rfl) hm hm2 (Or.inr ⟨fun v hv => ?_, ok2⟩) (fun vs σ1 g => ?_)
    · rcases List.mem_cons.mp hv with q | q
      · subst q
        show ¬ (σ.1 + 1 ≤ σ.1 ∧ σ.1 < m)
        omega
      · rw [List.mem_singleton] at q
        subst q
        show ¬ (σ.1 + 1 ≤ a ∧ a < m)
        omega
    · obtain ⟨g1, g2⟩ := g
      subst g1
      have e1 := g2.1
      refine X_putP hd4 hn hcf hkf hw hj hin hp (by omega) (by omega) hc ?_
      exact kk _ (h.put han (by omega) hP g2)
end
theorem ok_r {a n k : Nat} (h : a < n) {l : List (Option Value)} (hl : ∀ v ∈ l, v = none ∨ ∃ x, v = some (.int x)) : ∀ v, some v ∈ some (.ref a) :: l → okR n k v := by
  intro v hv
  rcases List.mem_cons.mp hv with q | q
  · cases q
    show ¬ (n ≤ a ∧ a < k)
    omega
  · rcases hl _ q with w | ⟨x, w⟩
    · cases w
    · cases w; trivial
theorem dX1_init_0 : decode cX1_init 0 = .ok (.aload_n 0, 1) := by decide +kernel
theorem dX1_init_1 : decode cX1_init 1 = .ok (.invokespecial 3, 3) := by decide +kernel
theorem dX1_init_4 : decode cX1_init 4 = .ok (.aload_n 0, 1) := by decide +kernel
theorem dX1_init_5 : decode cX1_init 5 = .ok (.iconst 4, 1) := by decide +kernel
theorem dX1_init_6 : decode cX1_init 6 = .ok (.newarray .int, 2) := by decide +kernel
theorem dX1_init_8 : decode cX1_init 8 = .ok (.putfield 9, 3) := by decide +kernel
theorem dX1_init_11 : decode cX1_init 11 = .ok (.return_, 1) := by decide +kernel
theorem sp_X1_init {a k : Nat} {σ : Wd} (hc : (lay a).1 = 1) (hl : lay (a + 1) = (8, 4)) (hP : P0 a 0 = some (a + 1)) (hP1 : ∀ i, 1 ≤ i → P0 a i = none) (hP2 : P0 (a + 1) = fun _ => none) (hI : IM a = fun _ => 0) (hI1 : IM (a + 1) = fun _ => 0) (ha : a < 137) (h : NEWC a σ) : E 2 (a + 2) j_X1_init [.ref a] σ (fun vs σ' => vs = [] ∧ CON a (a + 2) σ σ') := by
  refine E.start 0 (ls := [some (.ref a)]) (by decide +kernel) (Nat.le_of_ble_eq_true rfl) rfl (by rw [h.1]; omega) (by omega) ?_
  have h0 := h.pg
  refine X_aload_n (nx := 1) dX1_init_0 rfl rfl rfl ?_
  refine X_objInit (nx := 4) dX1_init_1 rfl ml_RX1_3 oi_1 oi_2 (by decide) (by decide) ?_
  refine X_aload_n (nx := 5) dX1_init_4 rfl rfl rfl ?_
  refine X_iconst (v := 4) (nx := 6) dX1_init_5 rfl rfl ?_
  refine C_arr (L := 4) h0 dX1_init_6 rfl dX1_init_8 rfl (by decide) (by decide) hl (by decide) (by omega) cf_X1 (by decide) (bg_in 177 (by decide +kernel) rfl) rfl rfl (by decide) hc hP hP2 hI1 (ok_r (by omega) (fun v hv => absurd hv List.not_mem_nil)) (by omega) (fun σ1 h1 => ?_)
  exact X_ret ⟨rfl, dX1_init_11⟩ h1.1 ⟨rfl, h1.con (by omega) hP1 hI⟩
