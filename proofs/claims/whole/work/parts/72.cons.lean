/-! CONSTRUCTORS: what they make -/
/-- the memory behind the constructors -/
def IM (b i : Nat) : Int32 :=
  if b < 104 ∧ (lay b).1 = 3 ∧ (i = 4 ∨ i = 5) then -9
  else if b = 81 ∧ i < 21 then -9
  else if b = 82 ∧ i < 3 then nI i
  else if b = 91 ∧ i < 3 then -9
  else if b = 80 ∧ i = 11 then 3
  else 0
/-- the object a has its first k pointers; what was made behind it is complete -/
def PGC (I : Mem) (Tp : Ptr) (a k n : Nat) (σ0 σ : Wd) : Prop := σ.1 = n ∧ (∀ b, b < a → σ.2.1 b = σ0.2.1 b ∧ σ.2.2 b = σ0.2.2 b) ∧ (∀ i, σ.2.1 a i = if i < k then Tp a i else none) ∧ σ.2.2 a = (fun _ => 0) ∧ (∀ b, a < b → b < n → σ.2.1 b = Tp b ∧ σ.2.2 b = I b) ∧ ∀ b, n ≤ b → σ.2.1 b = σ0.2.1 b ∧ σ.2.2 b = σ0.2.2 b
/-- a constructor of a made all up to m -/
def CON (I : Mem) (Tp : Ptr) (a m : Nat) (σ0 σ : Wd) : Prop := σ.1 = m ∧ (∀ b, b < a → σ.2.1 b = σ0.2.1 b ∧ σ.2.2 b = σ0.2.2 b) ∧ (∀ b, a ≤ b → b < m → σ.2.1 b = Tp b ∧ σ.2.2 b = I b) ∧ ∀ b, m ≤ b → σ.2.1 b = σ0.2.1 b ∧ σ.2.2 b = σ0.2.2 b
/-- a cell just made -/
def NEWC (a : Nat) (σ : Wd) : Prop := σ.1 = a + 1 ∧ σ.2.1 a = (fun _ => none) ∧ σ.2.2 a = (fun _ => 0)
theorem NEWC.pg {I : Mem} {Tp : Ptr} {a : Nat} {σ : Wd} (h : NEWC a σ) : PGC I Tp a 0 (a + 1) σ σ := ⟨h.1, fun _ _ => ⟨rfl, rfl⟩, fun i => by rw [h.2.1, if_neg (Nat.not_lt_zero _)], h.2.2, fun b h1 h2 => by omega, fun _ _ => ⟨rfl, rfl⟩⟩
theorem NEWC.of {σ : Wd} {n : Nat} (h : σ.1 = n) : NEWC n (newW σ) := by
  subst h
  exact ⟨rfl, if_pos rfl, if_pos rfl⟩
theorem nw_ne {σ : Wd} {b : Nat} (h : b ≠ σ.1) : (newW σ).2.1 b = σ.2.1 b ∧ (newW σ).2.2 b = σ.2.2 b := ⟨if_neg h, if_neg h⟩
theorem nw_eq {σ : Wd} : (newW σ).2.1 σ.1 = (fun _ => none) ∧ (newW σ).2.2 σ.1 = (fun _ => 0) := ⟨if_pos rfl, if_pos rfl⟩
theorem PGC.put {I : Mem} {Tp : Ptr} {a k n m : Nat} {σ0 σ σ1 : Wd} (h : PGC I Tp a k n σ0 σ) (han : a < n) (hnm : n < m) (hP : Tp a k = some n) (g : CON I Tp n m (newW σ) σ1) : PGC I Tp a (k + 1) m σ0 (σ1.1, up2 σ1.2.1 a k (some n), σ1.2.2) := by
  obtain ⟨h1, h2, h3, h4, h5, h6⟩ := h
  obtain ⟨g1, g2, g3, g4⟩ := g
  have e : ∀ b, b ≠ a → up2 σ1.2.1 a k (some n) b = σ1.2.1 b := fun b hb => up2_ne hb
  have low : ∀ b, b < n → σ1.2.1 b = σ.2.1 b ∧ σ1.2.2 b = σ.2.2 b := fun b hb => by
    have q := nw_ne (σ := σ) (b := b) (by omega)
    exact ⟨(g2 b hb).1.trans q.1, (g2 b hb).2.trans q.2⟩
  refine ⟨g1, fun b hb => ⟨(e b (by omega)).trans ((low b (by omega)).1.trans (h2 b hb).1), (low b (by omega)).2.trans (h2 b hb).2⟩, fun i => ?_, (low a han).2.trans h4, fun b x y => ?_, fun b hb => ?_⟩
  · by_cases hi : i = k
    · subst hi
      rw [if_pos (Nat.lt_succ_self _), hP]
      show (if a = a ∧ i = i then some n else _) = some n
      exact if_pos ⟨rfl, rfl⟩
    · show (if a = a ∧ i = k then some n else σ1.2.1 a i) = _
      rw [if_neg (fun q => hi q.2), (low a han).1, h3 i]
      by_cases q : i < k
      · rw [if_pos q, if_pos (by omega)]
      · rw [if_neg q, if_neg (by omega)]
  · by_cases q : b < n
    · exact ⟨(e b (by omega)).trans ((low b q).1.trans (h5 b x q).1), (low b q).2.trans (h5 b x q).2⟩
    · exact ⟨(e b (by omega)).trans (g3 b (by omega) y).1, (g3 b (by omega) y).2⟩
  · have q := nw_ne (σ := σ) (b := b) (by omega)
    exact ⟨(e b (by omega)).trans ((g4 b hb).1.trans (q.1.trans (h6 b (by omega)).1)), (g4 b hb).2.trans (q.2.trans (h6 b (by omega)).2)⟩
/-- an array alone -/
theorem con_arr {I : Mem} {Tp : Ptr} {n : Nat} {σ : Wd} (h : σ.1 = n) (hP : Tp n = fun _ => none) (hI : I n = fun _ => 0) : CON I Tp n (n + 1) (newW σ) (newW σ) := by
  subst h
  refine ⟨rfl, fun _ _ => ⟨rfl, rfl⟩, fun b x y => ?_, fun _ _ => ⟨rfl, rfl⟩⟩
  obtain rfl : b = σ.1 := by omega
  exact ⟨nw_eq.1.trans hP.symm, nw_eq.2.trans hI.symm⟩
theorem PGC.con {I : Mem} {Tp : Ptr} {a k n : Nat} {σ0 σ : Wd} (h : PGC I Tp a k n σ0 σ) (han : a < n) (hP : ∀ i, k ≤ i → Tp a i = none) (hI : I a = fun _ => 0) : CON I Tp a n σ0 σ := by
  obtain ⟨h1, h2, h3, h4, h5, h6⟩ := h
  refine ⟨h1, h2, fun b x y => ?_, h6⟩
  by_cases e : b = a
  · subst e
    refine ⟨funext fun i => ?_, h4.trans hI.symm⟩
    rw [h3 i]
    by_cases q : i < k
    · rw [if_pos q]
    · rw [if_neg q, hP i (by omega)]
  · exact h5 b (by omega) y
theorem PGC.skip {I : Mem} {Tp : Ptr} {a k n : Nat} {σ0 σ : Wd} (h : PGC I Tp a k n σ0 σ) (hP : Tp a k = none) : PGC I Tp a (k + 1) n σ0 σ := by
  obtain ⟨h1, h2, h3, h4⟩ := h
  refine ⟨h1, h2, fun i => ?_, h4⟩
  rw [h3 i]
  by_cases q : i < k
  · rw [if_pos q, if_pos (by omega)]
  · rw [if_neg q]
    by_cases w : i < k + 1
    · obtain rfl : i = k := by omega
      rw [if_pos w, hP]
    · rw [if_neg w]
section
variable {d k pc nx : Nat} {j : MI} {ls : List (Option Value)} {σ σ0 : Wd} {Q : List Value → Wd → Prop}
theorem C_arr {I : Mem} {Tp : Ptr} {a kf n ci N L idx pc2 : Nat} {C : String} {T : u_T} {ty : Nat → FieldType} {v : Int32} (h : PGC I Tp a kf n σ0 σ) (hd1 : decode j.2.1 pc = .ok (.newarray .int, 2)) (hn1 : pc + 2 = pc2) (hd2 : decode j.2.1 pc2 = .ok (.putfield idx, 3)) (hn : pc2 + 3 = nx) (hnn : ¬ v < 0) (hN : v.toNatClampNeg = L) (hl : lay n = (8, L)) (hle : L ≤ 1000) (hk : n < k) (hcf : CF ci C T N ty) (hkf : kf < N) (hw : Cond.fieldLink j.1.cls idx C (T kf).2.1 (T kf).2.2.1 ∈ big) (hj : j.1.cls = C) (hin : j.1.name = "<init>") (hp : isP ci kf = true) (hc : (lay a).1 = ci) (hP : Tp a kf = some n) (hP0 : Tp n = fun _ => none) (hI : I n = fun _ => 0) (hls : ∀ v, some v ∈ ls → okR n (n + 1) v) (han : a < n) (kk : ∀ σ', PGC I Tp a (kf + 1) (n + 1) σ0 σ' → X d k j nx ls [] σ' Q) : X d k j pc ls [.int v, .ref a] σ Q := by
  have e := h.1
  subst e
  refine X_newa hd1 hn1 ac_int hnn hN hl hle hk ⟨fun w hw => ?_, hls⟩ ?_
  · rw [List.mem_singleton] at hw
    subst hw
    show ¬ (σ.1 ≤ a ∧ a < σ.1 + 1)
    omega
  · refine X_putP hd2 hn hcf hkf hw hj hin hp (show a < σ.1 + 1 by omega) (show σ.1 < σ.1 + 1 by omega) hc ?_
    exact kk _ (h.put han (Nat.lt_succ_self _) hP (con_arr rfl hP0 hI))
theorem C_obj {I : Mem} {Tp : Ptr} {a kf n m ci ci2 N N2 idx idx2 idx3 pc2 pc3 pc4 d' : Nat} {j' : MI} {C C2 : String} {T T2 : u_T} {ty ty2 : Nat → FieldType} (h : PGC I Tp a kf n σ0 σ) (hd1 : decode j.2.1 pc = .ok (.new idx, 3)) (hn1 : pc + 3 = pc2) (hd2 : decode j.2.1 pc2 = .ok (.dup, 1)) (hn2 : pc2 + 1 = pc3) (hd3 : decode j.2.1 pc3 = .ok (.invokespecial idx2, 3)) (hn3 : pc3 + 3 = pc4) (hd4 : decode j.2.1 pc4 = .ok (.putfield idx3, 3)) (hn : pc4 + 3 = nx)
    (hcf2 : CF ci2 C2 T2 N2 ty2) (h1 : Cond.classLink j.1.cls idx C2 ∈ big) (h2 : Cond.instantiable C2 N2 ∈ big ∧ Cond.initialized C2 ∈ big) (hl : (lay n).1 = ci2) (hnk : n < k)
    (hl0 : ML j.1.cls idx2 j') (hj' : KJ j' 0) (hv : Cond.instanceMethod j'.1 ∈ big) (hnm : j'.1.name = "<init>") (hret : j'.2.2.2 = none) (hE : ∀ τ, NEWC n τ → E d' m j' [.ref n] τ (fun vs σ' => vs = [] ∧ CON I Tp n m τ σ')) (hd' : d' < d) (hm : n + 1 ≤ m) (hm2 : m ≤ k)
    (hcf : CF ci C T N ty) (hkf : kf < N) (hw : Cond.fieldLink j.1.cls idx3 C (T kf).2.1 (T kf).2.2.1 ∈ big) (hj : j.1.cls = C) (hin : j.1.name = "<init>") (hp : isP ci kf = true) (hc : (lay a).1 = ci) (hP : Tp a kf = some n) (hls : ∀ v, some v ∈ ls → okR n m v) (han : a < n) (kk : ∀ σ', PGC I Tp a (kf + 1) m σ0 σ' → X d k j nx ls [] σ' Q) : X d k j pc ls [.ref a] σ Q := by
  have e := h.1
  subst e
  have ok1 : ∀ v, some v ∈ ls → okR σ.1 (σ.1 + 1) v := fun v q => by
    have := hls v q
    cases v <;> first | trivial | (show ¬ _; intro w; exact this ⟨w.1, Nat.lt_of_lt_of_le w.2 hm⟩)
  have ok2 : ∀ v, some v ∈ ls → okR (σ.1 + 1) m v := fun v q => by
    have := hls v q
    cases v <;> first | trivial | (show ¬ _; intro w; exact this ⟨Nat.le_of_succ_le w.1, w.2⟩)
  refine X_new hd1 hn1 hcf2 h1 h2.1 h2.2 hl hnk ⟨fun w hw => ?_, ok1⟩ ?_
  · rw [List.mem_singleton] at hw
    subst hw
    show ¬ (σ.1 ≤ a ∧ a < σ.1 + 1)
    omega
  · refine X_dup hd2 hn2 rfl ?_
    refine X_callI (a := σ.1) (As := []) (rest := [.ref σ.1, .ref a]) (Q' := fun vs σ' => vs = [] ∧ CON I Tp σ.1 m (newW σ) σ') hd3 hn3 hl0 hj' hv hnm hret (hE _ (NEWC.of rfl)) rfl hd' rfl (Nat.le_of_ble_eq_true rfl) hm hm2 (Or.inr ⟨fun v hv => ?_, ok2⟩) (fun vs σ1 g => ?_)
    · rcases List.mem_cons.mp hv with q | q
      · subst q
        show ¬ (σ.1 + 1 ≤ σ.1 ∧ σ.1 < m)
        omega
      · rw [List.mem_singleton] at q
        subst q
        show ¬ (σ.1 + 1 ≤ a ∧ a < m)
        omega
    · obtain ⟨g1, g2⟩ := g
      subst g1
      have e1 := g2.1
      refine X_putP hd4 hn hcf hkf hw hj hin hp (by omega) (by omega) hc ?_
      exact kk _ (h.put han (by omega) hP g2)
end
theorem ok_r {a n k : Nat} (h : a < n) {l : List (Option Value)} (hl : ∀ v ∈ l, v = none ∨ ∃ x, v = some (.int x)) : ∀ v, some v ∈ some (.ref a) :: l → okR n k v := by
  intro v hv
  rcases List.mem_cons.mp hv with q | q
  · cases q
    show ¬ (n ≤ a ∧ a < k)
    omega
  · rcases hl _ q with w | ⟨x, w⟩
    · cases w
    · cases w; trivial
theorem gd_none {l : List (Option Nat)} {K : Nat} (h : (l.drop K).all (fun x => x.isNone) = true) : ∀ i, K ≤ i → l.getD i none = none := by
  intro i hi
  rw [List.getD_eq_getElem?_getD]
  cases e : l[i]? with
  | none => rfl
  | some x =>
    have : x ∈ l.drop K := by
      refine List.mem_of_getElem? (i := i - K) ?_
      rw [List.getElem?_drop, show K + (i - K) = i by omega]; exact e
    have h2 := List.all_eq_true.mp h x this
    cases x with
    | none => rfl
    | some y => cases h2
theorem p0_nil {n : Nat} (h : ptT.getD n [] = []) : P0 n = fun _ => none := by
  funext k
  show (ptT.getD n []).getD k none = none
  rw [h]; rfl
theorem im_0 {n : Nat} (h : (lay n).1 ≠ 3 ∧ n ≠ 80 ∧ n ≠ 81 ∧ n ≠ 82 ∧ n ≠ 91) : IM n = fun _ => 0 := by
  funext i
  unfold IM
  rw [if_neg (fun q => h.1 q.2.1), if_neg (fun q => h.2.2.1 q.1), if_neg (fun q => h.2.2.2.1 q.1), if_neg (fun q => h.2.2.2.2 q.1), if_neg (fun q => h.2.1 q.1)]
theorem im_104 {n : Nat} (h : 104 ≤ n) : IM n = fun _ => 0 := by
  funext i
  unfold IM
  rw [if_neg (by omega), if_neg (by omega), if_neg (by omega), if_neg (by omega), if_neg (by omega)]
theorem dX8_init_0 : decode cX8_init 0 = .ok (.aload_n 0, 1) := by decide +kernel
theorem dX8_init_1 : decode cX8_init 1 = .ok (.invokespecial 1, 3) := by decide +kernel
theorem dX8_init_4 : decode cX8_init 4 = .ok (.aload_n 0, 1) := by decide +kernel
theorem dX8_init_5 : decode cX8_init 5 = .ok (.bipush 7, 2) := by decide +kernel
theorem dX8_init_7 : decode cX8_init 7 = .ok (.newarray .int, 2) := by decide +kernel
theorem dX8_init_9 : decode cX8_init 9 = .ok (.putfield 7, 3) := by decide +kernel
theorem dX8_init_12 : decode cX8_init 12 = .ok (.aload_n 0, 1) := by decide +kernel
theorem dX8_init_13 : decode cX8_init 13 = .ok (.iconst 3, 1) := by decide +kernel
theorem dX8_init_14 : decode cX8_init 14 = .ok (.newarray .int, 2) := by decide +kernel
theorem dX8_init_16 : decode cX8_init 16 = .ok (.putfield 13, 3) := by decide +kernel
theorem dX8_init_19 : decode cX8_init 19 = .ok (.aload_n 0, 1) := by decide +kernel
theorem dX8_init_20 : decode cX8_init 20 = .ok (.iconst 3, 1) := by decide +kernel
theorem dX8_init_21 : decode cX8_init 21 = .ok (.newarray .int, 2) := by decide +kernel
theorem dX8_init_23 : decode cX8_init 23 = .ok (.putfield 16, 3) := by decide +kernel
theorem dX8_init_26 : decode cX8_init 26 = .ok (.aload_n 0, 1) := by decide +kernel
theorem dX8_init_27 : decode cX8_init 27 = .ok (.bipush 10, 2) := by decide +kernel
theorem dX8_init_29 : decode cX8_init 29 = .ok (.newarray .int, 2) := by decide +kernel
theorem dX8_init_31 : decode cX8_init 31 = .ok (.putfield 19, 3) := by decide +kernel
theorem dX8_init_34 : decode cX8_init 34 = .ok (.aload_n 0, 1) := by decide +kernel
theorem dX8_init_35 : decode cX8_init 35 = .ok (.bipush 10, 2) := by decide +kernel
theorem dX8_init_37 : decode cX8_init 37 = .ok (.newarray .int, 2) := by decide +kernel
theorem dX8_init_39 : decode cX8_init 39 = .ok (.putfield 22, 3) := by decide +kernel
theorem dX8_init_42 : decode cX8_init 42 = .ok (.aload_n 0, 1) := by decide +kernel
theorem dX8_init_43 : decode cX8_init 43 = .ok (.bipush 10, 2) := by decide +kernel
theorem dX8_init_45 : decode cX8_init 45 = .ok (.newarray .int, 2) := by decide +kernel
theorem dX8_init_47 : decode cX8_init 47 = .ok (.putfield 25, 3) := by decide +kernel
theorem dX8_init_50 : decode cX8_init 50 = .ok (.aload_n 0, 1) := by decide +kernel
theorem dX8_init_51 : decode cX8_init 51 = .ok (.bipush 10, 2) := by decide +kernel
theorem dX8_init_53 : decode cX8_init 53 = .ok (.newarray .int, 2) := by decide +kernel
theorem dX8_init_55 : decode cX8_init 55 = .ok (.putfield 28, 3) := by decide +kernel
theorem dX8_init_58 : decode cX8_init 58 = .ok (.aload_n 0, 1) := by decide +kernel
theorem dX8_init_59 : decode cX8_init 59 = .ok (.bipush 10, 2) := by decide +kernel
theorem dX8_init_61 : decode cX8_init 61 = .ok (.newarray .int, 2) := by decide +kernel
theorem dX8_init_63 : decode cX8_init 63 = .ok (.putfield 31, 3) := by decide +kernel
theorem dX8_init_66 : decode cX8_init 66 = .ok (.aload_n 0, 1) := by decide +kernel
theorem dX8_init_67 : decode cX8_init 67 = .ok (.bipush 40, 2) := by decide +kernel
theorem dX8_init_69 : decode cX8_init 69 = .ok (.newarray .int, 2) := by decide +kernel
theorem dX8_init_71 : decode cX8_init 71 = .ok (.putfield 34, 3) := by decide +kernel
theorem dX8_init_74 : decode cX8_init 74 = .ok (.aload_n 0, 1) := by decide +kernel
theorem dX8_init_75 : decode cX8_init 75 = .ok (.iconst 4, 1) := by decide +kernel
theorem dX8_init_76 : decode cX8_init 76 = .ok (.newarray .int, 2) := by decide +kernel
theorem dX8_init_78 : decode cX8_init 78 = .ok (.putfield 37, 3) := by decide +kernel
theorem dX8_init_81 : decode cX8_init 81 = .ok (.aload_n 0, 1) := by decide +kernel
theorem dX8_init_82 : decode cX8_init 82 = .ok (.bipush 16, 2) := by decide +kernel
theorem dX8_init_84 : decode cX8_init 84 = .ok (.newarray .int, 2) := by decide +kernel
theorem dX8_init_86 : decode cX8_init 86 = .ok (.putfield 40, 3) := by decide +kernel
theorem dX8_init_89 : decode cX8_init 89 = .ok (.aload_n 0, 1) := by decide +kernel
theorem dX8_init_90 : decode cX8_init 90 = .ok (.bipush 16, 2) := by decide +kernel
theorem dX8_init_92 : decode cX8_init 92 = .ok (.newarray .int, 2) := by decide +kernel
theorem dX8_init_94 : decode cX8_init 94 = .ok (.putfield 43, 3) := by decide +kernel
theorem dX8_init_97 : decode cX8_init 97 = .ok (.aload_n 0, 1) := by decide +kernel
theorem dX8_init_98 : decode cX8_init 98 = .ok (.bipush 16, 2) := by decide +kernel
theorem dX8_init_100 : decode cX8_init 100 = .ok (.newarray .int, 2) := by decide +kernel
theorem dX8_init_102 : decode cX8_init 102 = .ok (.putfield 46, 3) := by decide +kernel
theorem dX8_init_105 : decode cX8_init 105 = .ok (.aload_n 0, 1) := by decide +kernel
theorem dX8_init_106 : decode cX8_init 106 = .ok (.bipush 16, 2) := by decide +kernel
theorem dX8_init_108 : decode cX8_init 108 = .ok (.newarray .int, 2) := by decide +kernel
theorem dX8_init_110 : decode cX8_init 110 = .ok (.putfield 49, 3) := by decide +kernel
theorem dX8_init_113 : decode cX8_init 113 = .ok (.aload_n 0, 1) := by decide +kernel
theorem dX8_init_114 : decode cX8_init 114 = .ok (.bipush 16, 2) := by decide +kernel
theorem dX8_init_116 : decode cX8_init 116 = .ok (.newarray .int, 2) := by decide +kernel
theorem dX8_init_118 : decode cX8_init 118 = .ok (.putfield 52, 3) := by decide +kernel
theorem dX8_init_121 : decode cX8_init 121 = .ok (.aload_n 0, 1) := by decide +kernel
theorem dX8_init_122 : decode cX8_init 122 = .ok (.bipush 16, 2) := by decide +kernel
theorem dX8_init_124 : decode cX8_init 124 = .ok (.newarray .int, 2) := by decide +kernel
theorem dX8_init_126 : decode cX8_init 126 = .ok (.putfield 55, 3) := by decide +kernel
theorem dX8_init_129 : decode cX8_init 129 = .ok (.aload_n 0, 1) := by decide +kernel
theorem dX8_init_130 : decode cX8_init 130 = .ok (.bipush 16, 2) := by decide +kernel
theorem dX8_init_132 : decode cX8_init 132 = .ok (.newarray .int, 2) := by decide +kernel
theorem dX8_init_134 : decode cX8_init 134 = .ok (.putfield 58, 3) := by decide +kernel
theorem dX8_init_137 : decode cX8_init 137 = .ok (.aload_n 0, 1) := by decide +kernel
theorem dX8_init_138 : decode cX8_init 138 = .ok (.bipush 16, 2) := by decide +kernel
theorem dX8_init_140 : decode cX8_init 140 = .ok (.newarray .int, 2) := by decide +kernel
theorem dX8_init_142 : decode cX8_init 142 = .ok (.putfield 61, 3) := by decide +kernel
theorem dX8_init_145 : decode cX8_init 145 = .ok (.aload_n 0, 1) := by decide +kernel
theorem dX8_init_146 : decode cX8_init 146 = .ok (.bipush 16, 2) := by decide +kernel
theorem dX8_init_148 : decode cX8_init 148 = .ok (.newarray .int, 2) := by decide +kernel
theorem dX8_init_150 : decode cX8_init 150 = .ok (.putfield 64, 3) := by decide +kernel
theorem dX8_init_153 : decode cX8_init 153 = .ok (.aload_n 0, 1) := by decide +kernel
theorem dX8_init_154 : decode cX8_init 154 = .ok (.bipush 6, 2) := by decide +kernel
theorem dX8_init_156 : decode cX8_init 156 = .ok (.newarray .int, 2) := by decide +kernel
theorem dX8_init_158 : decode cX8_init 158 = .ok (.putfield 67, 3) := by decide +kernel
theorem dX8_init_161 : decode cX8_init 161 = .ok (.aload_n 0, 1) := by decide +kernel
theorem dX8_init_162 : decode cX8_init 162 = .ok (.bipush 96, 2) := by decide +kernel
theorem dX8_init_164 : decode cX8_init 164 = .ok (.newarray .int, 2) := by decide +kernel
theorem dX8_init_166 : decode cX8_init 166 = .ok (.putfield 70, 3) := by decide +kernel
theorem dX8_init_169 : decode cX8_init 169 = .ok (.aload_n 0, 1) := by decide +kernel
theorem dX8_init_170 : decode cX8_init 170 = .ok (.bipush 33, 2) := by decide +kernel
theorem dX8_init_172 : decode cX8_init 172 = .ok (.newarray .int, 2) := by decide +kernel
theorem dX8_init_174 : decode cX8_init 174 = .ok (.putfield 73, 3) := by decide +kernel
theorem dX8_init_177 : decode cX8_init 177 = .ok (.aload_n 0, 1) := by decide +kernel
theorem dX8_init_178 : decode cX8_init 178 = .ok (.bipush 33, 2) := by decide +kernel
theorem dX8_init_180 : decode cX8_init 180 = .ok (.newarray .int, 2) := by decide +kernel
theorem dX8_init_182 : decode cX8_init 182 = .ok (.putfield 76, 3) := by decide +kernel
theorem dX8_init_185 : decode cX8_init 185 = .ok (.aload_n 0, 1) := by decide +kernel
theorem dX8_init_186 : decode cX8_init 186 = .ok (.bipush 99, 2) := by decide +kernel
theorem dX8_init_188 : decode cX8_init 188 = .ok (.newarray .int, 2) := by decide +kernel
theorem dX8_init_190 : decode cX8_init 190 = .ok (.putfield 79, 3) := by decide +kernel
theorem dX8_init_193 : decode cX8_init 193 = .ok (.aload_n 0, 1) := by decide +kernel
theorem dX8_init_194 : decode cX8_init 194 = .ok (.bipush 33, 2) := by decide +kernel
theorem dX8_init_196 : decode cX8_init 196 = .ok (.newarray .int, 2) := by decide +kernel
theorem dX8_init_198 : decode cX8_init 198 = .ok (.putfield 82, 3) := by decide +kernel
theorem dX8_init_201 : decode cX8_init 201 = .ok (.aload_n 0, 1) := by decide +kernel
theorem dX8_init_202 : decode cX8_init 202 = .ok (.bipush 33, 2) := by decide +kernel
theorem dX8_init_204 : decode cX8_init 204 = .ok (.newarray .int, 2) := by decide +kernel
theorem dX8_init_206 : decode cX8_init 206 = .ok (.putfield 85, 3) := by decide +kernel
theorem dX8_init_209 : decode cX8_init 209 = .ok (.aload_n 0, 1) := by decide +kernel
theorem dX8_init_210 : decode cX8_init 210 = .ok (.bipush 96, 2) := by decide +kernel
theorem dX8_init_212 : decode cX8_init 212 = .ok (.newarray .int, 2) := by decide +kernel
theorem dX8_init_214 : decode cX8_init 214 = .ok (.putfield 88, 3) := by decide +kernel
theorem dX8_init_217 : decode cX8_init 217 = .ok (.aload_n 0, 1) := by decide +kernel
theorem dX8_init_218 : decode cX8_init 218 = .ok (.sipush 200, 3) := by decide +kernel
theorem dX8_init_221 : decode cX8_init 221 = .ok (.newarray .int, 2) := by decide +kernel
theorem dX8_init_223 : decode cX8_init 223 = .ok (.putfield 91, 3) := by decide +kernel
theorem dX8_init_226 : decode cX8_init 226 = .ok (.aload_n 0, 1) := by decide +kernel
theorem dX8_init_227 : decode cX8_init 227 = .ok (.iconst 4, 1) := by decide +kernel
theorem dX8_init_228 : decode cX8_init 228 = .ok (.newarray .int, 2) := by decide +kernel
theorem dX8_init_230 : decode cX8_init 230 = .ok (.putfield 94, 3) := by decide +kernel
theorem dX8_init_233 : decode cX8_init 233 = .ok (.aload_n 0, 1) := by decide +kernel
theorem dX8_init_234 : decode cX8_init 234 = .ok (.bipush 16, 2) := by decide +kernel
theorem dX8_init_236 : decode cX8_init 236 = .ok (.newarray .int, 2) := by decide +kernel
theorem dX8_init_238 : decode cX8_init 238 = .ok (.putfield 97, 3) := by decide +kernel
theorem dX8_init_241 : decode cX8_init 241 = .ok (.aload_n 0, 1) := by decide +kernel
theorem dX8_init_242 : decode cX8_init 242 = .ok (.iconst 3, 1) := by decide +kernel
theorem dX8_init_243 : decode cX8_init 243 = .ok (.newarray .int, 2) := by decide +kernel
theorem dX8_init_245 : decode cX8_init 245 = .ok (.putfield 100, 3) := by decide +kernel
theorem dX8_init_248 : decode cX8_init 248 = .ok (.aload_n 0, 1) := by decide +kernel
theorem dX8_init_249 : decode cX8_init 249 = .ok (.bipush 6, 2) := by decide +kernel
theorem dX8_init_251 : decode cX8_init 251 = .ok (.newarray .int, 2) := by decide +kernel
theorem dX8_init_253 : decode cX8_init 253 = .ok (.putfield 103, 3) := by decide +kernel
theorem dX8_init_256 : decode cX8_init 256 = .ok (.aload_n 0, 1) := by decide +kernel
theorem dX8_init_257 : decode cX8_init 257 = .ok (.bipush 30, 2) := by decide +kernel
theorem dX8_init_259 : decode cX8_init 259 = .ok (.newarray .int, 2) := by decide +kernel
theorem dX8_init_261 : decode cX8_init 261 = .ok (.putfield 106, 3) := by decide +kernel
theorem dX8_init_264 : decode cX8_init 264 = .ok (.aload_n 0, 1) := by decide +kernel
theorem dX8_init_265 : decode cX8_init 265 = .ok (.iconst 0, 1) := by decide +kernel
theorem dX8_init_266 : decode cX8_init 266 = .ok (.putfield 109, 3) := by decide +kernel
theorem dX8_init_269 : decode cX8_init 269 = .ok (.return_, 1) := by decide +kernel
theorem sp_X8_init {σ : Wd} (h : NEWC 104 σ) : E 2 138 j_X8_init [.ref 104] σ (fun vs σ' => vs = [] ∧ CON IM P0 104 138 σ σ') := by
  refine E.start 0 (ls := [some (.ref 104)]) (by decide +kernel) (Nat.le_of_ble_eq_true rfl) rfl (by rw [h.1]; omega) (by omega) ?_
  have h0 := h.pg (I := IM) (Tp := P0)
  refine X_aload_n (nx := 1) dX8_init_0 rfl rfl rfl ?_
  refine X_objInit (nx := 4) dX8_init_1 rfl ml_RX8_1 oi_1 oi_2 (by decide) (by decide) ?_
  refine X_aload_n (nx := 5) dX8_init_4 rfl rfl rfl ?_
  refine X_bipush (v := 7) (nx := 7) dX8_init_5 rfl rfl ?_
  refine C_arr (L := 7) h0 dX8_init_7 rfl dX8_init_9 rfl (by decide) (by decide) rfl (by decide) (by omega) cf_X8 (by decide) (bg_in 741 (by decide +kernel) rfl) rfl rfl (by decide) rfl rfl (p0_nil rfl) (im_104 (by decide)) (ok_r (by omega) (fun v hv => absurd hv List.not_mem_nil)) (by omega) (fun σ1 h1 => ?_)
  refine X_aload_n (nx := 13) dX8_init_12 rfl rfl rfl ?_
  refine X_iconst (v := 3) (nx := 14) dX8_init_13 rfl rfl ?_
  refine C_arr (L := 3) h1 dX8_init_14 rfl dX8_init_16 rfl (by decide) (by decide) rfl (by decide) (by omega) cf_X8 (by decide) (bg_in 742 (by decide +kernel) rfl) rfl rfl (by decide) rfl rfl (p0_nil rfl) (im_104 (by decide)) (ok_r (by omega) (fun v hv => absurd hv List.not_mem_nil)) (by omega) (fun σ2 h2 => ?_)
  refine X_aload_n (nx := 20) dX8_init_19 rfl rfl rfl ?_
  refine X_iconst (v := 3) (nx := 21) dX8_init_20 rfl rfl ?_
  refine C_arr (L := 3) h2 dX8_init_21 rfl dX8_init_23 rfl (by decide) (by decide) rfl (by decide) (by omega) cf_X8 (by decide) (bg_in 743 (by decide +kernel) rfl) rfl rfl (by decide) rfl rfl (p0_nil rfl) (im_104 (by decide)) (ok_r (by omega) (fun v hv => absurd hv List.not_mem_nil)) (by omega) (fun σ3 h3 => ?_)
  refine X_aload_n (nx := 27) dX8_init_26 rfl rfl rfl ?_
  refine X_bipush (v := 10) (nx := 29) dX8_init_27 rfl rfl ?_
  refine C_arr (L := 10) h3 dX8_init_29 rfl dX8_init_31 rfl (by decide) (by decide) rfl (by decide) (by omega) cf_X8 (by decide) (bg_in 744 (by decide +kernel) rfl) rfl rfl (by decide) rfl rfl (p0_nil rfl) (im_104 (by decide)) (ok_r (by omega) (fun v hv => absurd hv List.not_mem_nil)) (by omega) (fun σ4 h4 => ?_)
  refine X_aload_n (nx := 35) dX8_init_34 rfl rfl rfl ?_
  refine X_bipush (v := 10) (nx := 37) dX8_init_35 rfl rfl ?_
  refine C_arr (L := 10) h4 dX8_init_37 rfl dX8_init_39 rfl (by decide) (by decide) rfl (by decide) (by omega) cf_X8 (by decide) (bg_in 745 (by decide +kernel) rfl) rfl rfl (by decide) rfl rfl (p0_nil rfl) (im_104 (by decide)) (ok_r (by omega) (fun v hv => absurd hv List.not_mem_nil)) (by omega) (fun σ5 h5 => ?_)
  refine X_aload_n (nx := 43) dX8_init_42 rfl rfl rfl ?_
  refine X_bipush (v := 10) (nx := 45) dX8_init_43 rfl rfl ?_
  refine C_arr (L := 10) h5 dX8_init_45 rfl dX8_init_47 rfl (by decide) (by decide) rfl (by decide) (by omega) cf_X8 (by decide) (bg_in 746 (by decide +kernel) rfl) rfl rfl (by decide) rfl rfl (p0_nil rfl) (im_104 (by decide)) (ok_r (by omega) (fun v hv => absurd hv List.not_mem_nil)) (by omega) (fun σ6 h6 => ?_)
  refine X_aload_n (nx := 51) dX8_init_50 rfl rfl rfl ?_
  refine X_bipush (v := 10) (nx := 53) dX8_init_51 rfl rfl ?_
  refine C_arr (L := 10) h6 dX8_init_53 rfl dX8_init_55 rfl (by decide) (by decide) rfl (by decide) (by omega) cf_X8 (by decide) (bg_in 747 (by decide +kernel) rfl) rfl rfl (by decide) rfl rfl (p0_nil rfl) (im_104 (by decide)) (ok_r (by omega) (fun v hv => absurd hv List.not_mem_nil)) (by omega) (fun σ7 h7 => ?_)
  refine X_aload_n (nx := 59) dX8_init_58 rfl rfl rfl ?_
  refine X_bipush (v := 10) (nx := 61) dX8_init_59 rfl rfl ?_
  refine C_arr (L := 10) h7 dX8_init_61 rfl dX8_init_63 rfl (by decide) (by decide) rfl (by decide) (by omega) cf_X8 (by decide) (bg_in 748 (by decide +kernel) rfl) rfl rfl (by decide) rfl rfl (p0_nil rfl) (im_104 (by decide)) (ok_r (by omega) (fun v hv => absurd hv List.not_mem_nil)) (by omega) (fun σ8 h8 => ?_)
  refine X_aload_n (nx := 67) dX8_init_66 rfl rfl rfl ?_
  refine X_bipush (v := 40) (nx := 69) dX8_init_67 rfl rfl ?_
  refine C_arr (L := 40) h8 dX8_init_69 rfl dX8_init_71 rfl (by decide) (by decide) rfl (by decide) (by omega) cf_X8 (by decide) (bg_in 749 (by decide +kernel) rfl) rfl rfl (by decide) rfl rfl (p0_nil rfl) (im_104 (by decide)) (ok_r (by omega) (fun v hv => absurd hv List.not_mem_nil)) (by omega) (fun σ9 h9 => ?_)
  have h10 := h9.skip rfl
  refine X_aload_n (nx := 75) dX8_init_74 rfl rfl rfl ?_
  refine X_iconst (v := 4) (nx := 76) dX8_init_75 rfl rfl ?_
  refine C_arr (L := 4) h10 dX8_init_76 rfl dX8_init_78 rfl (by decide) (by decide) rfl (by decide) (by omega) cf_X8 (by decide) (bg_in 751 (by decide +kernel) rfl) rfl rfl (by decide) rfl rfl (p0_nil rfl) (im_104 (by decide)) (ok_r (by omega) (fun v hv => absurd hv List.not_mem_nil)) (by omega) (fun σ11 h11 => ?_)
  have h12 := h11.skip rfl
  refine X_aload_n (nx := 82) dX8_init_81 rfl rfl rfl ?_
  refine X_bipush (v := 16) (nx := 84) dX8_init_82 rfl rfl ?_
  refine C_arr (L := 16) h12 dX8_init_84 rfl dX8_init_86 rfl (by decide) (by decide) rfl (by decide) (by omega) cf_X8 (by decide) (bg_in 753 (by decide +kernel) rfl) rfl rfl (by decide) rfl rfl (p0_nil rfl) (im_104 (by decide)) (ok_r (by omega) (fun v hv => absurd hv List.not_mem_nil)) (by omega) (fun σ13 h13 => ?_)
  refine X_aload_n (nx := 90) dX8_init_89 rfl rfl rfl ?_
  refine X_bipush (v := 16) (nx := 92) dX8_init_90 rfl rfl ?_
  refine C_arr (L := 16) h13 dX8_init_92 rfl dX8_init_94 rfl (by decide) (by decide) rfl (by decide) (by omega) cf_X8 (by decide) (bg_in 754 (by decide +kernel) rfl) rfl rfl (by decide) rfl rfl (p0_nil rfl) (im_104 (by decide)) (ok_r (by omega) (fun v hv => absurd hv List.not_mem_nil)) (by omega) (fun σ14 h14 => ?_)
  refine X_aload_n (nx := 98) dX8_init_97 rfl rfl rfl ?_
  refine X_bipush (v := 16) (nx := 100) dX8_init_98 rfl rfl ?_
  refine C_arr (L := 16) h14 dX8_init_100 rfl dX8_init_102 rfl (by decide) (by decide) rfl (by decide) (by omega) cf_X8 (by decide) (bg_in 755 (by decide +kernel) rfl) rfl rfl (by decide) rfl rfl (p0_nil rfl) (im_104 (by decide)) (ok_r (by omega) (fun v hv => absurd hv List.not_mem_nil)) (by omega) (fun σ15 h15 => ?_)
  refine X_aload_n (nx := 106) dX8_init_105 rfl rfl rfl ?_
  refine X_bipush (v := 16) (nx := 108) dX8_init_106 rfl rfl ?_
  refine C_arr (L := 16) h15 dX8_init_108 rfl dX8_init_110 rfl (by decide) (by decide) rfl (by decide) (by omega) cf_X8 (by decide) (bg_in 756 (by decide +kernel) rfl) rfl rfl (by decide) rfl rfl (p0_nil rfl) (im_104 (by decide)) (ok_r (by omega) (fun v hv => absurd hv List.not_mem_nil)) (by omega) (fun σ16 h16 => ?_)
  refine X_aload_n (nx := 114) dX8_init_113 rfl rfl rfl ?_
  refine X_bipush (v := 16) (nx := 116) dX8_init_114 rfl rfl ?_
  refine C_arr (L := 16) h16 dX8_init_116 rfl dX8_init_118 rfl (by decide) (by decide) rfl (by decide) (by omega) cf_X8 (by decide) (bg_in 757 (by decide +kernel) rfl) rfl rfl (by decide) rfl rfl (p0_nil rfl) (im_104 (by decide)) (ok_r (by omega) (fun v hv => absurd hv List.not_mem_nil)) (by omega) (fun σ17 h17 => ?_)
  refine X_aload_n (nx := 122) dX8_init_121 rfl rfl rfl ?_
  refine X_bipush (v := 16) (nx := 124) dX8_init_122 rfl rfl ?_
  refine C_arr (L := 16) h17 dX8_init_124 rfl dX8_init_126 rfl (by decide) (by decide) rfl (by decide) (by omega) cf_X8 (by decide) (bg_in 758 (by decide +kernel) rfl) rfl rfl (by decide) rfl rfl (p0_nil rfl) (im_104 (by decide)) (ok_r (by omega) (fun v hv => absurd hv List.not_mem_nil)) (by omega) (fun σ18 h18 => ?_)
  refine X_aload_n (nx := 130) dX8_init_129 rfl rfl rfl ?_
  refine X_bipush (v := 16) (nx := 132) dX8_init_130 rfl rfl ?_
  refine C_arr (L := 16) h18 dX8_init_132 rfl dX8_init_134 rfl (by decide) (by decide) rfl (by decide) (by omega) cf_X8 (by decide) (bg_in 759 (by decide +kernel) rfl) rfl rfl (by decide) rfl rfl (p0_nil rfl) (im_104 (by decide)) (ok_r (by omega) (fun v hv => absurd hv List.not_mem_nil)) (by omega) (fun σ19 h19 => ?_)
  refine X_aload_n (nx := 138) dX8_init_137 rfl rfl rfl ?_
  refine X_bipush (v := 16) (nx := 140) dX8_init_138 rfl rfl ?_
  refine C_arr (L := 16) h19 dX8_init_140 rfl dX8_init_142 rfl (by decide) (by decide) rfl (by decide) (by omega) cf_X8 (by decide) (bg_in 760 (by decide +kernel) rfl) rfl rfl (by decide) rfl rfl (p0_nil rfl) (im_104 (by decide)) (ok_r (by omega) (fun v hv => absurd hv List.not_mem_nil)) (by omega) (fun σ20 h20 => ?_)
  refine X_aload_n (nx := 146) dX8_init_145 rfl rfl rfl ?_
  refine X_bipush (v := 16) (nx := 148) dX8_init_146 rfl rfl ?_
  refine C_arr (L := 16) h20 dX8_init_148 rfl dX8_init_150 rfl (by decide) (by decide) rfl (by decide) (by omega) cf_X8 (by decide) (bg_in 761 (by decide +kernel) rfl) rfl rfl (by decide) rfl rfl (p0_nil rfl) (im_104 (by decide)) (ok_r (by omega) (fun v hv => absurd hv List.not_mem_nil)) (by omega) (fun σ21 h21 => ?_)
  have h22 := h21.skip rfl
  have h23 := h22.skip rfl
  have h24 := h23.skip rfl
  have h25 := h24.skip rfl
  refine X_aload_n (nx := 154) dX8_init_153 rfl rfl rfl ?_
  refine X_bipush (v := 6) (nx := 156) dX8_init_154 rfl rfl ?_
  refine C_arr (L := 6) h25 dX8_init_156 rfl dX8_init_158 rfl (by decide) (by decide) rfl (by decide) (by omega) cf_X8 (by decide) (bg_in 766 (by decide +kernel) rfl) rfl rfl (by decide) rfl rfl (p0_nil rfl) (im_104 (by decide)) (ok_r (by omega) (fun v hv => absurd hv List.not_mem_nil)) (by omega) (fun σ26 h26 => ?_)
  refine X_aload_n (nx := 162) dX8_init_161 rfl rfl rfl ?_
  refine X_bipush (v := 96) (nx := 164) dX8_init_162 rfl rfl ?_
  refine C_arr (L := 96) h26 dX8_init_164 rfl dX8_init_166 rfl (by decide) (by decide) rfl (by decide) (by omega) cf_X8 (by decide) (bg_in 767 (by decide +kernel) rfl) rfl rfl (by decide) rfl rfl (p0_nil rfl) (im_104 (by decide)) (ok_r (by omega) (fun v hv => absurd hv List.not_mem_nil)) (by omega) (fun σ27 h27 => ?_)
  refine X_aload_n (nx := 170) dX8_init_169 rfl rfl rfl ?_
  refine X_bipush (v := 33) (nx := 172) dX8_init_170 rfl rfl ?_
  refine C_arr (L := 33) h27 dX8_init_172 rfl dX8_init_174 rfl (by decide) (by decide) rfl (by decide) (by omega) cf_X8 (by decide) (bg_in 768 (by decide +kernel) rfl) rfl rfl (by decide) rfl rfl (p0_nil rfl) (im_104 (by decide)) (ok_r (by omega) (fun v hv => absurd hv List.not_mem_nil)) (by omega) (fun σ28 h28 => ?_)
  refine X_aload_n (nx := 178) dX8_init_177 rfl rfl rfl ?_
  refine X_bipush (v := 33) (nx := 180) dX8_init_178 rfl rfl ?_
  refine C_arr (L := 33) h28 dX8_init_180 rfl dX8_init_182 rfl (by decide) (by decide) rfl (by decide) (by omega) cf_X8 (by decide) (bg_in 769 (by decide +kernel) rfl) rfl rfl (by decide) rfl rfl (p0_nil rfl) (im_104 (by decide)) (ok_r (by omega) (fun v hv => absurd hv List.not_mem_nil)) (by omega) (fun σ29 h29 => ?_)
  refine X_aload_n (nx := 186) dX8_init_185 rfl rfl rfl ?_
  refine X_bipush (v := 99) (nx := 188) dX8_init_186 rfl rfl ?_
  refine C_arr (L := 99) h29 dX8_init_188 rfl dX8_init_190 rfl (by decide) (by decide) rfl (by decide) (by omega) cf_X8 (by decide) (bg_in 770 (by decide +kernel) rfl) rfl rfl (by decide) rfl rfl (p0_nil rfl) (im_104 (by decide)) (ok_r (by omega) (fun v hv => absurd hv List.not_mem_nil)) (by omega) (fun σ30 h30 => ?_)
  refine X_aload_n (nx := 194) dX8_init_193 rfl rfl rfl ?_
  refine X_bipush (v := 33) (nx := 196) dX8_init_194 rfl rfl ?_
  refine C_arr (L := 33) h30 dX8_init_196 rfl dX8_init_198 rfl (by decide) (by decide) rfl (by decide) (by omega) cf_X8 (by decide) (bg_in 771 (by decide +kernel) rfl) rfl rfl (by decide) rfl rfl (p0_nil rfl) (im_104 (by decide)) (ok_r (by omega) (fun v hv => absurd hv List.not_mem_nil)) (by omega) (fun σ31 h31 => ?_)
  refine X_aload_n (nx := 202) dX8_init_201 rfl rfl rfl ?_
  refine X_bipush (v := 33) (nx := 204) dX8_init_202 rfl rfl ?_
  refine C_arr (L := 33) h31 dX8_init_204 rfl dX8_init_206 rfl (by decide) (by decide) rfl (by decide) (by omega) cf_X8 (by decide) (bg_in 772 (by decide +kernel) rfl) rfl rfl (by decide) rfl rfl (p0_nil rfl) (im_104 (by decide)) (ok_r (by omega) (fun v hv => absurd hv List.not_mem_nil)) (by omega) (fun σ32 h32 => ?_)
  refine X_aload_n (nx := 210) dX8_init_209 rfl rfl rfl ?_
  refine X_bipush (v := 96) (nx := 212) dX8_init_210 rfl rfl ?_
  refine C_arr (L := 96) h32 dX8_init_212 rfl dX8_init_214 rfl (by decide) (by decide) rfl (by decide) (by omega) cf_X8 (by decide) (bg_in 773 (by decide +kernel) rfl) rfl rfl (by decide) rfl rfl (p0_nil rfl) (im_104 (by decide)) (ok_r (by omega) (fun v hv => absurd hv List.not_mem_nil)) (by omega) (fun σ33 h33 => ?_)
  have h34 := h33.skip rfl
  have h35 := h34.skip rfl
  have h36 := h35.skip rfl
  have h37 := h36.skip rfl
  have h38 := h37.skip rfl
  refine X_aload_n (nx := 218) dX8_init_217 rfl rfl rfl ?_
  refine X_sipush (v := 200) (nx := 221) dX8_init_218 rfl rfl ?_
  refine C_arr (L := 200) h38 dX8_init_221 rfl dX8_init_223 rfl (by decide) (by decide) rfl (by decide) (by omega) cf_X8 (by decide) (bg_in 779 (by decide +kernel) rfl) rfl rfl (by decide) rfl rfl (p0_nil rfl) (im_104 (by decide)) (ok_r (by omega) (fun v hv => absurd hv List.not_mem_nil)) (by omega) (fun σ39 h39 => ?_)
  have h40 := h39.skip rfl
  have h41 := h40.skip rfl
  have h42 := h41.skip rfl
  have h43 := h42.skip rfl
  refine X_aload_n (nx := 227) dX8_init_226 rfl rfl rfl ?_
  refine X_iconst (v := 4) (nx := 228) dX8_init_227 rfl rfl ?_
  refine C_arr (L := 4) h43 dX8_init_228 rfl dX8_init_230 rfl (by decide) (by decide) rfl (by decide) (by omega) cf_X8 (by decide) (bg_in 784 (by decide +kernel) rfl) rfl rfl (by decide) rfl rfl (p0_nil rfl) (im_104 (by decide)) (ok_r (by omega) (fun v hv => absurd hv List.not_mem_nil)) (by omega) (fun σ44 h44 => ?_)
  refine X_aload_n (nx := 234) dX8_init_233 rfl rfl rfl ?_
  refine X_bipush (v := 16) (nx := 236) dX8_init_234 rfl rfl ?_
  refine C_arr (L := 16) h44 dX8_init_236 rfl dX8_init_238 rfl (by decide) (by decide) rfl (by decide) (by omega) cf_X8 (by decide) (bg_in 785 (by decide +kernel) rfl) rfl rfl (by decide) rfl rfl (p0_nil rfl) (im_104 (by decide)) (ok_r (by omega) (fun v hv => absurd hv List.not_mem_nil)) (by omega) (fun σ45 h45 => ?_)
  refine X_aload_n (nx := 242) dX8_init_241 rfl rfl rfl ?_
  refine X_iconst (v := 3) (nx := 243) dX8_init_242 rfl rfl ?_
  refine C_arr (L := 3) h45 dX8_init_243 rfl dX8_init_245 rfl (by decide) (by decide) rfl (by decide) (by omega) cf_X8 (by decide) (bg_in 786 (by decide +kernel) rfl) rfl rfl (by decide) rfl rfl (p0_nil rfl) (im_104 (by decide)) (ok_r (by omega) (fun v hv => absurd hv List.not_mem_nil)) (by omega) (fun σ46 h46 => ?_)
  have h47 := h46.skip rfl
  have h48 := h47.skip rfl
  refine X_aload_n (nx := 249) dX8_init_248 rfl rfl rfl ?_
  refine X_bipush (v := 6) (nx := 251) dX8_init_249 rfl rfl ?_
  refine C_arr (L := 6) h48 dX8_init_251 rfl dX8_init_253 rfl (by decide) (by decide) rfl (by decide) (by omega) cf_X8 (by decide) (bg_in 789 (by decide +kernel) rfl) rfl rfl (by decide) rfl rfl (p0_nil rfl) (im_104 (by decide)) (ok_r (by omega) (fun v hv => absurd hv List.not_mem_nil)) (by omega) (fun σ49 h49 => ?_)
  refine X_aload_n (nx := 257) dX8_init_256 rfl rfl rfl ?_
  refine X_bipush (v := 30) (nx := 259) dX8_init_257 rfl rfl ?_
  refine C_arr (L := 30) h49 dX8_init_259 rfl dX8_init_261 rfl (by decide) (by decide) rfl (by decide) (by omega) cf_X8 (by decide) (bg_in 790 (by decide +kernel) rfl) rfl rfl (by decide) rfl rfl (p0_nil rfl) (im_104 (by decide)) (ok_r (by omega) (fun v hv => absurd hv List.not_mem_nil)) (by omega) (fun σ50 h50 => ?_)
  have hn := h50.1
  refine X_aload_n (nx := 265) dX8_init_264 rfl rfl rfl ?_
  refine X_iconst (v := 0) (nx := 266) dX8_init_265 rfl rfl ?_
  refine X_putI (nx := 269) dX8_init_266 rfl fl_RX8_109 (by decide) (by decide) (by omega) rfl ?_
  rw [up2_id (by rw [h50.2.2.2.1])]
  exact X_ret ⟨rfl, dX8_init_269⟩ hn ⟨rfl, h50.con (by omega) (gd_none (l := ptT.getD 104 []) rfl) (im_104 (by decide))⟩
theorem dX4_init_0 : decode cX4_init 0 = .ok (.aload_n 0, 1) := by decide +kernel
theorem dX4_init_1 : decode cX4_init 1 = .ok (.invokespecial 3, 3) := by decide +kernel
theorem dX4_init_4 : decode cX4_init 4 = .ok (.aload_n 0, 1) := by decide +kernel
theorem dX4_init_5 : decode cX4_init 5 = .ok (.iconst 4, 1) := by decide +kernel
theorem dX4_init_6 : decode cX4_init 6 = .ok (.newarray .int, 2) := by decide +kernel
theorem dX4_init_8 : decode cX4_init 8 = .ok (.putfield 9, 3) := by decide +kernel
theorem dX4_init_11 : decode cX4_init 11 = .ok (.aload_n 0, 1) := by decide +kernel
theorem dX4_init_12 : decode cX4_init 12 = .ok (.bipush (-9), 2) := by decide +kernel
theorem dX4_init_14 : decode cX4_init 14 = .ok (.putfield 15, 3) := by decide +kernel
theorem dX4_init_17 : decode cX4_init 17 = .ok (.aload_n 0, 1) := by decide +kernel
theorem dX4_init_18 : decode cX4_init 18 = .ok (.bipush (-9), 2) := by decide +kernel
theorem dX4_init_20 : decode cX4_init 20 = .ok (.putfield 19, 3) := by decide +kernel
theorem dX4_init_23 : decode cX4_init 23 = .ok (.return_, 1) := by decide +kernel
theorem sp_X4_init {a : Nat} {σ : Wd} (hc : (lay a).1 = 3) (hl : lay (a + 1) = (8, 4)) (hP : P0 a 0 = some (a + 1)) (hP1 : ∀ i, 1 ≤ i → P0 a i = none) (hP2 : P0 (a + 1) = fun _ => none) (hI1 : IM (a + 1) = fun _ => 0) (ha : a < 104) (h : NEWC a σ) : E 2 (a + 2) j_X4_init [.ref a] σ (fun vs σ' => vs = [] ∧ CON IM P0 a (a + 2) σ σ') := by
  refine E.start 0 (ls := [some (.ref a)]) (by decide +kernel) (Nat.le_of_ble_eq_true rfl) rfl (by rw [h.1]; omega) (by omega) ?_
  have h0 := h.pg (I := IM) (Tp := P0)
  refine X_aload_n (nx := 1) dX4_init_0 rfl rfl rfl ?_
  refine X_objInit (nx := 4) dX4_init_1 rfl ml_RX4_3 oi_1 oi_2 (by decide) (by decide) ?_
  refine X_aload_n (nx := 5) dX4_init_4 rfl rfl rfl ?_
  refine X_iconst (v := 4) (nx := 6) dX4_init_5 rfl rfl ?_
  refine C_arr (L := 4) h0 dX4_init_6 rfl dX4_init_8 rfl (by decide) (by decide) hl (by decide) (by omega) cf_X4 (by decide) (bg_in 33 (by decide +kernel) rfl) rfl rfl (by decide) hc hP hP2 hI1 (ok_r (by omega) (fun v hv => absurd hv List.not_mem_nil)) (by omega) (fun σ1 h1 => ?_)
  have hn := h1.1
  refine X_aload_n (nx := 12) dX4_init_11 rfl rfl rfl ?_
  refine X_bipush (v := -9) (nx := 14) dX4_init_12 rfl rfl ?_
  refine X_putI (nx := 17) dX4_init_14 rfl fl_RX4_15 (by decide) (by decide) (by omega) hc ?_
  refine X_aload_n (nx := 18) dX4_init_17 rfl rfl rfl ?_
  refine X_bipush (v := -9) (nx := 20) dX4_init_18 rfl rfl ?_
  refine X_putI (nx := 23) dX4_init_20 rfl fl_RX4_19 (by decide) (by decide) (show a < σ1.1 by omega) hc ?_
  refine X_ret ⟨rfl, dX4_init_23⟩ hn ⟨rfl, ?_⟩
  obtain ⟨h1, h2, h3, h4, h5, h6⟩ := h1
  have e : ∀ b, b ≠ a → up2 (up2 σ1.2.2 a 4 (-9)) a 5 (-9) b = σ1.2.2 b := fun b hb => (up2_ne hb).trans (up2_ne hb)
  refine ⟨h1, fun b hb => ⟨(h2 b hb).1, (e b (by omega)).trans (h2 b hb).2⟩, fun b x y => ?_, fun b hb => ⟨(h6 b hb).1, (e b (by omega)).trans (h6 b hb).2⟩⟩
  by_cases q : b = a
  · subst q
    refine ⟨funext fun i => ?_, funext fun i => ?_⟩
    · rw [h3 i]
      by_cases w : i < 0 + 1
      · rw [if_pos w]
      · rw [if_neg w, hP1 i (by omega)]
    · show (if b = b ∧ i = 5 then (-9 : Int32) else (if b = b ∧ i = 4 then -9 else σ1.2.2 b i)) = IM b i
      unfold IM
      by_cases w : i = 4 ∨ i = 5
      · rw [if_pos (⟨ha, hc, w⟩ : b < 104 ∧ (lay b).1 = 3 ∧ (i = 4 ∨ i = 5))]
        rcases w with w | w
        · rw [if_neg (by omega), if_pos ⟨rfl, w⟩]
        · rw [if_pos ⟨rfl, w⟩]
      · have l80 : b ≠ 80 ∧ b ≠ 81 ∧ b ≠ 82 ∧ b ≠ 91 := ⟨fun z => (by subst z; cases hc), fun z => (by subst z; cases hc), fun z => (by subst z; cases hc), fun z => (by subst z; cases hc)⟩
        rw [if_neg (by omega), if_neg (by omega), h4, if_neg (fun z => w z.2.2), if_neg (by omega), if_neg (by omega), if_neg (by omega), if_neg (by omega)]
  · exact ⟨(h5 b (by omega) y).1, (e b q).trans (h5 b (by omega) y).2⟩
theorem dX2_init_0 : decode cX2_init 0 = .ok (.aload_n 0, 1) := by decide +kernel
theorem dX2_init_1 : decode cX2_init 1 = .ok (.invokespecial 3, 3) := by decide +kernel
theorem dX2_init_4 : decode cX2_init 4 = .ok (.aload_n 0, 1) := by decide +kernel
theorem dX2_init_5 : decode cX2_init 5 = .ok (.iconst 0, 1) := by decide +kernel
theorem dX2_init_6 : decode cX2_init 6 = .ok (.iload_n 1, 1) := by decide +kernel
theorem dX2_init_7 : decode cX2_init 7 = .ok (.invokestatic 9, 3) := by decide +kernel
theorem dX2_init_10 : decode cX2_init 10 = .ok (.newarray .int, 2) := by decide +kernel
theorem dX2_init_12 : decode cX2_init 12 = .ok (.putfield 15, 3) := by decide +kernel
theorem dX2_init_15 : decode cX2_init 15 = .ok (.return_, 1) := by decide +kernel
section
variable {d k pc nx : Nat} {j : MI} {ls : List (Option Value)} {st : List Value} {σ : Wd} {Q : List Value → Wd → Prop}
theorem X_max {idx : Nat} {x y : Int32} (hd : decode j.2.1 pc = .ok (.invokestatic idx, 3)) (hn : pc + 3 = nx) (h1 : Cond.methodLink j.1.cls idx Lib.Math.max.name ∈ big) (h2 : Cond.static Lib.Math.max.name ∈ big) (h3 : Cond.initialized "java/lang/Math" ∈ big) (h4 : Cond.code Lib.Math.max.name Lib.Math.max.code 2 (some .int) ∈ big) (hd1 : 1 ≤ d) (hcat : (st.map fun v => v.category).sum ≤ 8) (kk : X d k j nx ls (.int (if x < y then y else x) :: st) σ Q) : X d k j pc ls (.int y :: .int x :: st) σ Q := by
  subst hn
  intro p l e R s m args below meth c cells slots H locs la q ad A n0 ad0 Qm hC hR hS hl hB hF
  obtain ⟨hx, hb, hr, hml, hown, hts, hlk, hini⟩ := id hC
  have hcm := cat_map (ad := ad) st
  exact va_mmax hx hb (by rw [hml]; exact hl.1.symm) hown (hts _ h1) (hts _ h2) (hts _ h3) (hts _ h4) (by omega) (by rw [hcm]; omega) (by have := hB.2.2.2.1; omega) (by have := hB.2.2.2.2.1; omega) hd (kk p l e R s m args below meth c cells slots H locs la q ad A n0 ad0 Qm hC hR hS hl hB hF)
end
theorem sp_X2_init {a L : Nat} {σ : Wd} (hc : (lay a).1 = 2) (hl : lay (a + 1) = (8, L)) (hL0 : 0 < L) (hL : L ≤ 1000) (hP : P0 a 0 = some (a + 1)) (hP1 : ∀ i, 1 ≤ i → P0 a i = none) (hP2 : P0 (a + 1) = fun _ => none) (hI : IM a = fun _ => 0) (hI1 : IM (a + 1) = fun _ => 0) (ha : a < 137) (h : NEWC a σ) : E 2 (a + 2) j_X2_init [.ref a, .int (nI L)] σ (fun vs σ' => vs = [] ∧ CON IM P0 a (a + 2) σ σ') := by
  refine E.start 0 (ls := [some (.ref a), some (.int (nI L))]) (by decide +kernel) (Nat.le_of_ble_eq_true rfl) rfl (by rw [h.1]; omega) (by omega) ?_
  have h0 := h.pg (I := IM) (Tp := P0)
  have hn := h.1
  have hv : ¬ nI L < 0 := nI_neg (by omega)
  refine X_aload_n (nx := 1) dX2_init_0 rfl rfl rfl ?_
  refine X_objInit (nx := 4) dX2_init_1 rfl ml_RX2_3 oi_1 oi_2 (by decide) (by decide) ?_
  refine X_aload_n (nx := 5) dX2_init_4 rfl rfl rfl ?_
  refine X_iconst (v := 0) (nx := 6) dX2_init_5 rfl rfl ?_
  refine X_iload_n (nx := 7) dX2_init_6 rfl rfl rfl ?_
  refine X_max (nx := 10) dX2_init_7 rfl (bg_in 173 (by decide +kernel) rfl) ks_J9_max_7cf53 kj_J9_max_7cf53.2.1 kj_J9_max_7cf53.1 (by decide) (Nat.le_of_ble_eq_true rfl) ?_
  have hif : (if (0 : Int32) < nI L then nI L else 0) = nI L := if_pos ((nI_ltI (a := 0) (by omega) (by omega)).mpr hL0)
  rw [hif]
  refine C_arr (L := L) h0 dX2_init_10 rfl dX2_init_12 rfl hv (by rw [Int32.toNatClampNeg, nI_toInt (by omega)]; rfl) hl hL (by omega) cf_X2 (by decide) (bg_in 176 (by decide +kernel) rfl) rfl rfl (by decide) hc hP hP2 hI1 (ok_r (by omega) (fun v hv => Or.inr ⟨_, List.mem_singleton.mp hv⟩)) (by omega) (fun σ1 h1 => ?_)
  exact X_ret ⟨rfl, dX2_init_15⟩ h1.1 ⟨rfl, h1.con (by omega) hP1 hI⟩
