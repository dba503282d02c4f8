/-! CONSTRUCTORS: the walk, the class -/
section
variable {d k pc nx : Nat} {j : MI} {ls : List (Option Value)} {σ σ0 : Wd} {Q : List Value → Wd → Prop}
theorem C_obj1 {I : Mem} {Tp : Ptr} {a kf n m ci ci2 N N2 idx idx2 idx3 pc2 pc3 pc4 pc5 d' : Nat} {x : Int} {v : Int32} {j' : MI} {C C2 : String} {T T2 : u_T} {ty ty2 : Nat → FieldType} (h : PGC I Tp a kf n σ0 σ) (hd1 : decode j.2.1 pc = .ok (.new idx, 3)) (hn1 : pc + 3 = pc2) (hd2 : decode j.2.1 pc2 = .ok (.dup, 1)) (hn2 : pc2 + 1 = pc3) (hdp : decode j.2.1 pc3 = .ok (.bipush x, 2)) (hnp : pc3 + 2 = pc5) (hv5 : (Int8.ofInt x).toInt32 = v) (hd3 : decode j.2.1 pc5 = .ok (.invokespecial idx2, 3)) (hn3 : pc5 + 3 = pc4) (hd4 : decode j.2.1 pc4 = .ok (.putfield idx3, 3)) (hn : pc4 + 3 = nx)
    (hcf2 : CF ci2 C2 T2 N2 ty2) (h1 : Cond.classLink j.1.cls idx C2 ∈ big) (h2 : Cond.instantiable C2 N2 ∈ big ∧ Cond.initialized C2 ∈ big) (hl : (lay n).1 = ci2) (hnk : n < k)
    (hl0 : ML j.1.cls idx2 j') (hj' : KJ j' 1) (hv : Cond.instanceMethod j'.1 ∈ big) (hnm : j'.1.name = "<init>") (hret : j'.2.2.2 = none) (hE : ∀ τ, NEWC n τ → E d' m j' [.ref n, .int v] τ (fun vs σ' => vs = [] ∧ CON I Tp n m τ σ')) (hd' : d' < d) (hm : n + 1 ≤ m) (hm2 : m ≤ k)
    (hcf : CF ci C T N ty) (hkf : kf < N) (hw : Cond.fieldLink j.1.cls idx3 C (T kf).2.1 (T kf).2.2.1 ∈ big) (hj : j.1.cls = C) (hin : j.1.name = "<init>") (hp : isP ci kf = true) (hc : (lay a).1 = ci) (hP : Tp a kf = some n) (hls : ∀ v, some v ∈ ls → okR n m v) (han : a < n) (kk : ∀ σ', PGC I Tp a (kf + 1) m σ0 σ' → X d k j nx ls [] σ' Q) : X d k j pc ls [.ref a] σ Q := by
  have e := h.1
  subst e
  have ok1 : ∀ v, some v ∈ ls → okR σ.1 (σ.1 + 1) v := fun v q => by
    have := hls v q
    cases v <;> first | trivial | (show ¬ _; intro w; exact this ⟨w.1, Nat.lt_of_lt_of_le w.2 hm⟩)
  have ok2 : ∀ v, some v ∈ ls → okR (σ.1 + 1) m v := fun v q => by
    have := hls v q
    cases v <;> first | trivial | (show ¬ _; intro w; exact this ⟨Nat.le_of_succ_le w.1, w.2⟩)
  refine X_new hd1 hn1 hcf2 h1 h2.1 h2.2 hl hnk ⟨fun w hw => ?_, ok1⟩ ?_
  · rw [List.mem_singleton] at hw
    subst hw
    show ¬ (σ.1 ≤ a ∧ a < σ.1 + 1)
    omega
  · refine X_dup hd2 hn2 rfl ?_
    refine X_bipush (v := v) hdp hnp hv5 ?_
    refine X_callI (a := σ.1) (As := [.int v]) (rest := [.ref σ.1, .ref a]) (Q' := fun vs σ' => vs = [] ∧ CON I Tp σ.1 m (newW σ) σ') hd3 hn3 hl0 hj' hv hnm hret (hE _ (NEWC.of rfl)) rfl hd' rfl (Nat.le_of_ble_eq_true rfl) hm hm2 (Or.inr ⟨fun v hv => ?_, ok2⟩) (fun vs σ1 g => ?_)
    · rcases List.mem_cons.mp hv with q | q
      · subst q
        show ¬ (σ.1 + 1 ≤ σ.1 ∧ σ.1 < m)
        omega
      · rw [List.mem_singleton] at q
        subst q
        show ¬ (σ.1 + 1 ≤ a ∧ a < m)
        omega
    · obtain ⟨g1, g2⟩ := g
      subst g1
      have e1 := g2.1
      refine X_putP hd4 hn hcf hkf hw hj hin hp (by omega) (by omega) hc ?_
      exact kk _ (h.put han (by omega) hP g2)
theorem C_obj2 {I : Mem} {Tp : Ptr} {a kf n m ci ci2 N N2 idx idx2 idx3 pc2 pc3 pc4 pc5 d' : Nat} {x : Int} {v : Int32} {j' : MI} {C C2 : String} {T T2 : u_T} {ty ty2 : Nat → FieldType} (h : PGC I Tp a kf n σ0 σ) (hd1 : decode j.2.1 pc = .ok (.new idx, 3)) (hn1 : pc + 3 = pc2) (hd2 : decode j.2.1 pc2 = .ok (.dup, 1)) (hn2 : pc2 + 1 = pc3) (hdp : decode j.2.1 pc3 = .ok (.iconst x, 1)) (hnp : pc3 + 1 = pc5) (hv5 : Int32.ofInt x = v) (hd3 : decode j.2.1 pc5 = .ok (.invokespecial idx2, 3)) (hn3 : pc5 + 3 = pc4) (hd4 : decode j.2.1 pc4 = .ok (.putfield idx3, 3)) (hn : pc4 + 3 = nx)
    (hcf2 : CF ci2 C2 T2 N2 ty2) (h1 : Cond.classLink j.1.cls idx C2 ∈ big) (h2 : Cond.instantiable C2 N2 ∈ big ∧ Cond.initialized C2 ∈ big) (hl : (lay n).1 = ci2) (hnk : n < k)
    (hl0 : ML j.1.cls idx2 j') (hj' : KJ j' 1) (hv : Cond.instanceMethod j'.1 ∈ big) (hnm : j'.1.name = "<init>") (hret : j'.2.2.2 = none) (hE : ∀ τ, NEWC n τ → E d' m j' [.ref n, .int v] τ (fun vs σ' => vs = [] ∧ CON I Tp n m τ σ')) (hd' : d' < d) (hm : n + 1 ≤ m) (hm2 : m ≤ k)
    (hcf : CF ci C T N ty) (hkf : kf < N) (hw : Cond.fieldLink j.1.cls idx3 C (T kf).2.1 (T kf).2.2.1 ∈ big) (hj : j.1.cls = C) (hin : j.1.name = "<init>") (hp : isP ci kf = true) (hc : (lay a).1 = ci) (hP : Tp a kf = some n) (hls : ∀ v, some v ∈ ls → okR n m v) (han : a < n) (kk : ∀ σ', PGC I Tp a (kf + 1) m σ0 σ' → X d k j nx ls [] σ' Q) : X d k j pc ls [.ref a] σ Q := by
  have e := h.1
  subst e
  have ok1 : ∀ v, some v ∈ ls → okR σ.1 (σ.1 + 1) v := fun v q => by
    have := hls v q
    cases v <;> first | trivial | (show ¬ _; intro w; exact this ⟨w.1, Nat.lt_of_lt_of_le w.2 hm⟩)
  have ok2 : ∀ v, some v ∈ ls → okR (σ.1 + 1) m v := fun v q => by
    have := hls v q
    cases v <;> first | trivial | (show ¬ _; intro w; exact this ⟨Nat.le_of_succ_le w.1, w.2⟩)
  refine X_new hd1 hn1 hcf2 h1 h2.1 h2.2 hl hnk ⟨fun w hw => ?_, ok1⟩ ?_
  · rw [List.mem_singleton] at hw
    subst hw
    show ¬ (σ.1 ≤ a ∧ a < σ.1 + 1)
    omega
  · refine X_dup hd2 hn2 rfl ?_
    refine X_iconst (v := v) hdp hnp hv5 ?_
    refine X_callI (a := σ.1) (As := [.int v]) (rest := [.ref σ.1, .ref a]) (Q' := fun vs σ' => vs = [] ∧ CON I Tp σ.1 m (newW σ) σ') hd3 hn3 hl0 hj' hv hnm hret (hE _ (NEWC.of rfl)) rfl hd' rfl (Nat.le_of_ble_eq_true rfl) hm hm2 (Or.inr ⟨fun v hv => ?_, ok2⟩) (fun vs σ1 g => ?_)
    · rcases List.mem_cons.mp hv with q | q
      · subst q
        show ¬ (σ.1 + 1 ≤ σ.1 ∧ σ.1 < m)
        omega
      · rw [List.mem_singleton] at q
        subst q
        show ¬ (σ.1 + 1 ≤ a ∧ a < m)
        omega
    · obtain ⟨g1, g2⟩ := g
      subst g1
      have e1 := g2.1
      refine X_putP hd4 hn hcf hkf hw hj hin hp (by omega) (by omega) hc ?_
      exact kk _ (h.put han (by omega) hP g2)
end
theorem dX6_init_0 : decode cX6_init 0 = .ok (.aload_n 0, 1) := by decide +kernel
theorem dX6_init_1 : decode cX6_init 1 = .ok (.invokespecial 3, 3) := by decide +kernel
theorem dX6_init_4 : decode cX6_init 4 = .ok (.aload_n 0, 1) := by decide +kernel
theorem dX6_init_5 : decode cX6_init 5 = .ok (.new 9, 3) := by decide +kernel
theorem dX6_init_8 : decode cX6_init 8 = .ok (.dup, 1) := by decide +kernel
theorem dX6_init_9 : decode cX6_init 9 = .ok (.invokespecial 11, 3) := by decide +kernel
theorem dX6_init_12 : decode cX6_init 12 = .ok (.putfield 12, 3) := by decide +kernel
theorem dX6_init_15 : decode cX6_init 15 = .ok (.aload_n 0, 1) := by decide +kernel
theorem dX6_init_16 : decode cX6_init 16 = .ok (.new 18, 3) := by decide +kernel
theorem dX6_init_19 : decode cX6_init 19 = .ok (.dup, 1) := by decide +kernel
theorem dX6_init_20 : decode cX6_init 20 = .ok (.iconst 4, 1) := by decide +kernel
theorem dX6_init_21 : decode cX6_init 21 = .ok (.invokespecial 20, 3) := by decide +kernel
theorem dX6_init_24 : decode cX6_init 24 = .ok (.putfield 23, 3) := by decide +kernel
theorem dX6_init_27 : decode cX6_init 27 = .ok (.aload_n 0, 1) := by decide +kernel
theorem dX6_init_28 : decode cX6_init 28 = .ok (.iconst 3, 1) := by decide +kernel
theorem dX6_init_29 : decode cX6_init 29 = .ok (.newarray .int, 2) := by decide +kernel
theorem dX6_init_31 : decode cX6_init 31 = .ok (.putfield 27, 3) := by decide +kernel
theorem dX6_init_34 : decode cX6_init 34 = .ok (.aload_n 0, 1) := by decide +kernel
theorem dX6_init_35 : decode cX6_init 35 = .ok (.iconst 3, 1) := by decide +kernel
theorem dX6_init_36 : decode cX6_init 36 = .ok (.newarray .int, 2) := by decide +kernel
theorem dX6_init_38 : decode cX6_init 38 = .ok (.putfield 31, 3) := by decide +kernel
theorem dX6_init_41 : decode cX6_init 41 = .ok (.return_, 1) := by decide +kernel
theorem sp_X6_init {σ : Wd} (h : NEWC 79 σ) : E 5 96 j_X6_init [.ref 79] σ (fun vs σ' => vs = [] ∧ CON IM P0 79 96 σ σ') := by
  refine E.start 0 (ls := [some (.ref 79)]) (by decide +kernel) (Nat.le_of_ble_eq_true rfl) rfl (by rw [h.1]; omega) (by omega) ?_
  have h0 := h.pg (I := IM) (Tp := P0)
  refine X_aload_n (nx := 1) dX6_init_0 rfl rfl rfl ?_
  refine X_objInit (nx := 4) dX6_init_1 rfl ml_RX6_3 oi_1 oi_2 (by decide) (by decide) ?_
  refine X_aload_n (nx := 5) dX6_init_4 rfl rfl rfl ?_
  refine C_obj (m := 92) (d' := 4) h0 dX6_init_5 rfl dX6_init_8 rfl dX6_init_9 rfl dX6_init_12 rfl cf_X5 cl_RX6_9 in_RX5 rfl (by omega) ml_RX6_11 kj_X5_init ki_X5_init rfl rfl (fun τ hτ => sp_X5_init hτ) (by decide) (by omega) (by omega) cf_X6 (by decide) (bg_in 188 (by decide +kernel) rfl) rfl rfl (by decide) rfl rfl (ok_r (by omega) (fun v hv => absurd hv List.not_mem_nil)) (by omega) (fun σ1 h1 => ?_)
  refine X_aload_n (nx := 16) dX6_init_15 rfl rfl rfl ?_
  refine C_obj2 (v := nI 4) (m := 94) (d' := 2) h1 dX6_init_16 rfl dX6_init_19 rfl dX6_init_20 rfl rfl dX6_init_21 rfl dX6_init_24 rfl cf_X2 cl_RX6_18 in_RX2 rfl (by omega) ml_RX6_20 kj_X2_init ki_X2_init rfl rfl (fun τ hτ => sp_X2_init (L := 4) rfl rfl (by decide) (by decide) rfl (gd_none (l := ptT.getD 92 []) rfl) (p0_nil rfl) (im_0 (by decide)) (im_0 (by decide)) (by decide) hτ) (by decide) (by omega) (by omega) cf_X6 (by decide) (bg_in 190 (by decide +kernel) rfl) rfl rfl (by decide) rfl rfl (ok_r (by omega) (fun v hv => absurd hv List.not_mem_nil)) (by omega) (fun σ2 h2 => ?_)
  refine X_aload_n (nx := 28) dX6_init_27 rfl rfl rfl ?_
  refine X_iconst (v := 3) (nx := 29) dX6_init_28 rfl rfl ?_
  refine C_arr (L := 3) h2 dX6_init_29 rfl dX6_init_31 rfl (by decide) (by decide) rfl (by decide) (by omega) cf_X6 (by decide) (bg_in 192 (by decide +kernel) rfl) rfl rfl (by decide) rfl rfl (p0_nil rfl) (im_0 (by decide)) (ok_r (by omega) (fun v hv => absurd hv List.not_mem_nil)) (by omega) (fun σ3 h3 => ?_)
  refine X_aload_n (nx := 35) dX6_init_34 rfl rfl rfl ?_
  refine X_iconst (v := 3) (nx := 36) dX6_init_35 rfl rfl ?_
  refine C_arr (L := 3) h3 dX6_init_36 rfl dX6_init_38 rfl (by decide) (by decide) rfl (by decide) (by omega) cf_X6 (by decide) (bg_in 194 (by decide +kernel) rfl) rfl rfl (by decide) rfl rfl (p0_nil rfl) (im_0 (by decide)) (ok_r (by omega) (fun v hv => absurd hv List.not_mem_nil)) (by omega) (fun σ4 h4 => ?_)
  exact X_ret ⟨rfl, dX6_init_41⟩ h4.1 ⟨rfl, h4.con (by omega) (gd_none (l := ptT.getD 79 []) rfl) (im_0 (by decide))⟩
