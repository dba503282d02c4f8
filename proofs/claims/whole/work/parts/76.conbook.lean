/-! CONSTRUCTORS: the books -/
theorem sp_X4_any {Tp : Ptr} {a : Nat} {σ : Wd} (hc : (lay a).1 = 3) (hl : lay (a + 1) = (8, 4)) (hP : Tp a 0 = some (a + 1)) (hP1 : ∀ i, 1 ≤ i → Tp a i = none) (hP2 : Tp (a + 1) = fun _ => none) (hI1 : IM (a + 1) = fun _ => 0) (ha : a < 104) (h : NEWC a σ) : E 2 (a + 2) j_X4_init [.ref a] σ (fun vs σ' => vs = [] ∧ CON IM Tp a (a + 2) σ σ') := by
  refine E.start 0 (ls := [some (.ref a)]) (by decide +kernel) (Nat.le_of_ble_eq_true rfl) rfl (by rw [h.1]; omega) (by omega) ?_
  have h0 := h.pg (I := IM) (Tp := Tp)
  refine X_aload_n (nx := 1) dX4_init_0 rfl rfl rfl ?_
  refine X_objInit (nx := 4) dX4_init_1 rfl ml_RX4_3 oi_1 oi_2 (by decide) (by decide) ?_
  refine X_aload_n (nx := 5) dX4_init_4 rfl rfl rfl ?_
  refine X_iconst (v := 4) (nx := 6) dX4_init_5 rfl rfl ?_
  refine C_arr (L := 4) h0 dX4_init_6 rfl dX4_init_8 rfl (by decide) (by decide) hl (by decide) (by omega) cf_X4 (by decide) (bg_in 33 (by decide +kernel) rfl) rfl rfl (by decide) hc hP hP2 hI1 (ok_r (by omega) (fun v hv => absurd hv List.not_mem_nil)) (by omega) (fun σ1 h1 => ?_)
  have hn := h1.1
  refine X_aload_n (nx := 12) dX4_init_11 rfl rfl rfl ?_
  refine X_bipush (v := -9) (nx := 14) dX4_init_12 rfl rfl ?_
  refine X_putI (nx := 17) dX4_init_14 rfl fl_RX4_15 (by decide) (by decide) (by omega) hc ?_
  refine X_aload_n (nx := 18) dX4_init_17 rfl rfl rfl ?_
  refine X_bipush (v := -9) (nx := 20) dX4_init_18 rfl rfl ?_
  refine X_putI (nx := 23) dX4_init_20 rfl fl_RX4_19 (by decide) (by decide) (show a < σ1.1 by omega) hc ?_
  refine X_ret ⟨rfl, dX4_init_23⟩ hn ⟨rfl, ?_⟩
  obtain ⟨h1, h2, h3, h4, h5, h6⟩ := h1
  have e : ∀ b, b ≠ a → up2 (up2 σ1.2.2 a 4 (-9)) a 5 (-9) b = σ1.2.2 b := fun b hb => (up2_ne hb).trans (up2_ne hb)
  refine ⟨h1, fun b hb => ⟨(h2 b hb).1, (e b (by omega)).trans (h2 b hb).2⟩, fun b x y => ?_, fun b hb => ⟨(h6 b hb).1, (e b (by omega)).trans (h6 b hb).2⟩⟩
  by_cases q : b = a
  · subst q
    refine ⟨funext fun i => ?_, funext fun i => ?_⟩
    · rw [h3 i]
      by_cases w : i < 0 + 1
      · rw [if_pos w]
      · rw [if_neg w, hP1 i (by omega)]
    · show (if b = b ∧ i = 5 then (-9 : Int32) else (if b = b ∧ i = 4 then -9 else σ1.2.2 b i)) = IM b i
      unfold IM
      by_cases w : i = 4 ∨ i = 5
      · rw [if_pos (⟨ha, hc, w⟩ : b < 104 ∧ (lay b).1 = 3 ∧ (i = 4 ∨ i = 5))]
        rcases w with w | w
        · rw [if_neg (by omega), if_pos ⟨rfl, w⟩]
        · rw [if_pos ⟨rfl, w⟩]
      · have l80 : b ≠ 80 ∧ b ≠ 81 ∧ b ≠ 82 ∧ b ≠ 91 := ⟨fun z => (by subst z; cases hc), fun z => (by subst z; cases hc), fun z => (by subst z; cases hc), fun z => (by subst z; cases hc)⟩
        rw [if_neg (by omega), if_neg (by omega), h4, if_neg (fun z => w z.2.2), if_neg (by omega), if_neg (by omega), if_neg (by omega), if_neg (by omega)]
  · exact ⟨(h5 b (by omega) y).1, (e b q).trans (h5 b (by omega) y).2⟩
section
variable {d k pc nx : Nat} {j : MI} {ls : List (Option Value)} {σ σ0 : Wd} {Q : List Value → Wd → Prop}
theorem C_newq {I : Mem} {Tp : Ptr} {a kf n ci N L idx idx0 pc2 : Nat} {C : String} {T : u_T} {ty : Nat → FieldType} {v : Int32} (h : PGC I Tp a kf n σ0 σ) (hd1 : decode j.2.1 pc = .ok (.anewarray idx0, 3)) (hn1 : pc + 3 = pc2) (hd2 : decode j.2.1 pc2 = .ok (.putfield idx, 3)) (hn : pc2 + 3 = nx) (hcl : Cond.classLink j.1.cls idx0 RX4 ∈ big) (hnn : ¬ v < 0) (hN : v.toNatClampNeg = L) (hl : lay n = (9, L)) (hle : L ≤ 1000) (hk : n < k) (hcf : CF ci C T N ty) (hkf : kf < N) (hw : Cond.fieldLink j.1.cls idx C (T kf).2.1 (T kf).2.2.1 ∈ big) (hj : j.1.cls = C) (hin : j.1.name = "<init>") (hp : isP ci kf = true) (hc : (lay a).1 = ci) (hP : Tp a kf = some n) (hP0 : Tp n = fun _ => none) (hI : I n = fun _ => 0) (hls : ∀ v, some v ∈ ls → okR n (n + 1) v) (han : a < n) (kk : ∀ σ', PGC I Tp a (kf + 1) (n + 1) σ0 σ' → X d k j nx ls [] σ' Q) : X d k j pc ls [.int v, .ref a] σ Q := by
  have e := h.1
  subst e
  refine X_newq hd1 hn1 hcl hnn hN hl hle hk ⟨fun w hw => ?_, hls⟩ ?_
  · rw [List.mem_singleton] at hw
    subst hw
    show ¬ (σ.1 ≤ a ∧ a < σ.1 + 1)
    omega
  · refine X_putP hd2 hn hcf hkf hw hj hin hp (show a < σ.1 + 1 by omega) (show σ.1 < σ.1 + 1 by omega) hc ?_
    exact kk _ (h.put han (Nat.lt_succ_self _) hP (con_arr rfl hP0 hI))
end
/-- the pointers of a book whose first i routes are set -/
def TBK (b i : Nat) : Ptr := fun a k => if a = b + 3 ∧ i ≤ k then none else P0 a k
theorem TBK_ne {b i a : Nat} (h : a ≠ b + 3) : TBK b i a = P0 a := funext fun k => if_neg (fun q => h q.1)
theorem TBK_0 {b : Nat} : TBK b 0 (b + 3) = fun _ => none := funext fun k => if_pos ⟨rfl, Nat.zero_le _⟩
theorem PGC.eqT {I : Mem} {T T' : Ptr} {a k n : Nat} {σ0 σ : Wd} (h : PGC I T a k n σ0 σ) (hT : ∀ c, a ≤ c → c < n → T c = T' c) (han : a < n) : PGC I T' a k n σ0 σ := by
  obtain ⟨h1, h2, h3, h4, h5, h6⟩ := h
  exact ⟨h1, h2, fun i => (h3 i).trans (by rw [hT a (Nat.le_refl _) han]), h4, fun b x y => ⟨(h5 b x y).1.trans (hT b (by omega) y), (h5 b x y).2⟩, h6⟩
/-- a route more -/
theorem PGC.aast {b i n : Nat} {σ0 σ σ1 : Wd} (h : PGC IM (TBK b i) b 4 n σ0 σ) (hbn : b + 6 ≤ n) (hP : P0 (b + 3) i = some n) (g : CON IM P0 n (n + 2) (newW σ) σ1) : PGC IM (TBK b (i + 1)) b 4 (n + 2) σ0 (σ1.1, up2 σ1.2.1 (b + 3) i (some n), σ1.2.2) := by
  obtain ⟨h1, h2, h3, h4, h5, h6⟩ := h
  obtain ⟨g1, g2, g3, g4⟩ := g
  have e : ∀ c, c ≠ b + 3 → up2 σ1.2.1 (b + 3) i (some n) c = σ1.2.1 c := fun c hc => up2_ne hc
  have low : ∀ c, c < n → σ1.2.1 c = σ.2.1 c ∧ σ1.2.2 c = σ.2.2 c := fun c hc => by
    have q := nw_ne (σ := σ) (b := c) (by omega)
    exact ⟨(g2 c hc).1.trans q.1, (g2 c hc).2.trans q.2⟩
  refine ⟨g1, fun c hc => ⟨(e c (by omega)).trans ((low c (by omega)).1.trans (h2 c hc).1), (low c (by omega)).2.trans (h2 c hc).2⟩, fun x => ?_, (low b (by omega)).2.trans h4, fun c x y => ?_, fun c hc => ?_⟩
  · refine (congrFun (e b (by omega)) x).trans ((congrFun (low b (by omega)).1 x).trans ((h3 x).trans ?_))
    rw [TBK_ne (by omega), TBK_ne (by omega)]
  · by_cases q : c < n
    · by_cases w : c = b + 3
      · subst w
        refine ⟨funext fun x => ?_, (low _ q).2.trans (h5 _ x q).2⟩
        show (if b + 3 = b + 3 ∧ x = i then some n else σ1.2.1 (b + 3) x) = TBK b (i + 1) (b + 3) x
        unfold TBK
        by_cases z : x = i
        · subst z
          rw [if_pos ⟨rfl, rfl⟩, if_neg (by omega)]; exact hP.symm
        · rw [if_neg (fun v => z v.2), (low _ q).1, (h5 (b + 3) (by omega) q).1]
          unfold TBK
          by_cases v : i ≤ x
          · rw [if_pos ⟨rfl, v⟩, if_pos ⟨rfl, by omega⟩]
          · rw [if_neg (by omega), if_neg (by omega)]
      · exact ⟨(e c w).trans ((low c q).1.trans ((h5 c x q).1.trans ((TBK_ne w).trans (TBK_ne w).symm))), (low c q).2.trans (h5 c x q).2⟩
    · exact ⟨(e c (by omega)).trans ((g3 c (by omega) y).1.trans (TBK_ne (by omega)).symm), (g3 c (by omega) y).2⟩
  · have q := nw_ne (σ := σ) (b := c) (by omega)
    exact ⟨(e c (by omega)).trans ((g4 c hc).1.trans (q.1.trans (h6 c (by omega)).1)), (g4 c hc).2.trans (q.2.trans (h6 c (by omega)).2)⟩
theorem book_P {b : Nat} (h : isB b) : (∀ i, 4 ≤ i → P0 b i = none) ∧ (∀ i, 10 ≤ i → P0 (b + 3) i = none) ∧ IM b = (fun _ => 0) ∧ IM (b + 3) = (fun _ => 0) := by
  rcases h with rfl | rfl | rfl
  · exact ⟨gd_none (l := ptT.getD 1 []) rfl, gd_none (l := ptT.getD 4 []) rfl, im_0 (by decide), im_0 (by decide)⟩
  · exact ⟨gd_none (l := ptT.getD 27 []) rfl, gd_none (l := ptT.getD 30 []) rfl, im_0 (by decide), im_0 (by decide)⟩
  · exact ⟨gd_none (l := ptT.getD 53 []) rfl, gd_none (l := ptT.getD 56 []) rfl, im_0 (by decide), im_0 (by decide)⟩
theorem dX0_init_0 : decode cX0_init 0 = .ok (.aload_n 0, 1) := by decide +kernel
theorem dX0_init_1 : decode cX0_init 1 = .ok (.invokespecial 3, 3) := by decide +kernel
theorem dX0_init_4 : decode cX0_init 4 = .ok (.aload_n 0, 1) := by decide +kernel
theorem dX0_init_5 : decode cX0_init 5 = .ok (.iconst 3, 1) := by decide +kernel
theorem dX0_init_6 : decode cX0_init 6 = .ok (.newarray .int, 2) := by decide +kernel
theorem dX0_init_8 : decode cX0_init 8 = .ok (.putfield 9, 3) := by decide +kernel
theorem dX0_init_11 : decode cX0_init 11 = .ok (.aload_n 0, 1) := by decide +kernel
theorem dX0_init_12 : decode cX0_init 12 = .ok (.iconst 3, 1) := by decide +kernel
theorem dX0_init_13 : decode cX0_init 13 = .ok (.newarray .int, 2) := by decide +kernel
theorem dX0_init_15 : decode cX0_init 15 = .ok (.putfield 15, 3) := by decide +kernel
theorem dX0_init_18 : decode cX0_init 18 = .ok (.aload_n 0, 1) := by decide +kernel
theorem dX0_init_19 : decode cX0_init 19 = .ok (.bipush 10, 2) := by decide +kernel
theorem dX0_init_21 : decode cX0_init 21 = .ok (.anewarray 18, 3) := by decide +kernel
theorem dX0_init_24 : decode cX0_init 24 = .ok (.putfield 20, 3) := by decide +kernel
theorem dX0_init_27 : decode cX0_init 27 = .ok (.aload_n 0, 1) := by decide +kernel
theorem dX0_init_28 : decode cX0_init 28 = .ok (.new 18, 3) := by decide +kernel
theorem dX0_init_31 : decode cX0_init 31 = .ok (.dup, 1) := by decide +kernel
theorem dX0_init_32 : decode cX0_init 32 = .ok (.invokespecial 24, 3) := by decide +kernel
theorem dX0_init_35 : decode cX0_init 35 = .ok (.putfield 25, 3) := by decide +kernel
theorem dX0_init_38 : decode cX0_init 38 = .ok (.iconst 0, 1) := by decide +kernel
theorem dX0_init_39 : decode cX0_init 39 = .ok (.istore_n 1, 1) := by decide +kernel
theorem dX0_init_40 : decode cX0_init 40 = .ok (.iload_n 1, 1) := by decide +kernel
theorem dX0_init_41 : decode cX0_init 41 = .ok (.aload_n 0, 1) := by decide +kernel
theorem dX0_init_42 : decode cX0_init 42 = .ok (.getfield 20, 3) := by decide +kernel
theorem dX0_init_45 : decode cX0_init 45 = .ok (.arraylength, 1) := by decide +kernel
theorem dX0_init_46 : decode cX0_init 46 = .ok (.if_icmp .ge 22, 3) := by decide +kernel
theorem dX0_init_49 : decode cX0_init 49 = .ok (.aload_n 0, 1) := by decide +kernel
theorem dX0_init_50 : decode cX0_init 50 = .ok (.getfield 20, 3) := by decide +kernel
theorem dX0_init_53 : decode cX0_init 53 = .ok (.iload_n 1, 1) := by decide +kernel
theorem dX0_init_54 : decode cX0_init 54 = .ok (.new 18, 3) := by decide +kernel
theorem dX0_init_57 : decode cX0_init 57 = .ok (.dup, 1) := by decide +kernel
theorem dX0_init_58 : decode cX0_init 58 = .ok (.invokespecial 24, 3) := by decide +kernel
theorem dX0_init_61 : decode cX0_init 61 = .ok (.aastore, 1) := by decide +kernel
theorem dX0_init_62 : decode cX0_init 62 = .ok (.iinc 1 1, 3) := by decide +kernel
theorem dX0_init_65 : decode cX0_init 65 = .ok (.goto (-25), 3) := by decide +kernel
theorem dX0_init_68 : decode cX0_init 68 = .ok (.return_, 1) := by decide +kernel
theorem rt_facts : ∀ b ∈ [1, 27, 53], ∀ i, i < 10 → (lay (b + 6 + 2 * i)).1 = 3 ∧ lay (b + 6 + 2 * i + 1) = (8, 4) ∧ P0 (b + 6 + 2 * i) 0 = some (b + 6 + 2 * i + 1) ∧ (((ptT.getD (b + 6 + 2 * i) []).drop 1).all (fun x => x.isNone) = true) ∧ ptT.getD (b + 6 + 2 * i + 1) [] = [] ∧ b + 6 + 2 * i < 104 ∧ P0 (b + 3) i = some (b + 6 + 2 * i) ∧ ((lay (b + 6 + 2 * i + 1)).1 ≠ 3 ∧ b + 6 + 2 * i + 1 < 80) := by decide +kernel
theorem ok3 {n a k : Nat} {x : Int32} (h : a < n) : ∀ v ∈ [Value.int x, .ref a], okR n k v := by
  intro v hv
  rcases List.mem_cons.mp hv with q | q
  · subst q; trivial
  · rw [List.mem_singleton] at q; subst q
    show ¬ (n ≤ a ∧ a < k); omega
theorem ok4 {n a c k : Nat} {x : Int32} (h : c < n) (h2 : a < n) : ∀ v ∈ [Value.ref c, .int x, .ref a], okR n k v := by
  intro v hv
  rcases List.mem_cons.mp hv with q | q
  · subst q
    show ¬ (n ≤ c ∧ c < k); omega
  · exact ok3 h2 v q
theorem ok_r' {a n k : Nat} {x : Int32} (_ : True) (h : a < n) : ∀ v, some v ∈ [some (.ref a), some (.int x)] → okR n k v := ok_r h (fun v hv => Or.inr ⟨_, List.mem_singleton.mp hv⟩)
theorem lp_X0_init_1 {σ0 : Wd} : ∀ (m : Nat) (i : Nat) (σ : Wd), i + m = 10 → PGC IM (TBK 1 i) 1 4 (1 + 6 + 2 * i) σ0 σ → X 3 27 j_X0_init 40 [some (.ref 1), some (.int (nI i))] [] σ (fun vs σ' => vs = [] ∧ CON IM P0 1 27 σ0 σ') := by
  intro m
  induction m with
  | zero =>
    intro i σ hi h
    have hn := h.1
    have hb := book_P (b := 1) (by unfold isB; omega)
    have hr : σ.2.1 1 2 = some 4 := (h.2.2.1 2).trans ((if_pos (by omega)).trans ((congrFun (TBK_ne (by omega)) 2).trans rfl))
    have tb10 : ∀ c, TBK 1 10 c = P0 c := fun c => by
      by_cases q : c = 1 + 3
      · subst q
        funext k
        unfold TBK
        by_cases w : 10 ≤ k
        · rw [if_pos ⟨rfl, w⟩]; exact (hb.2.1 k w).symm
        · rw [if_neg (fun z => w z.2)]
      · exact TBK_ne q
    refine X_iload_n (nx := 41) dX0_init_40 rfl rfl rfl ?_
    refine X_aload_n (nx := 42) dX0_init_41 rfl rfl rfl ?_
    refine X_getP (b := 4) (nx := 45) dX0_init_42 rfl fl_RX0_20 (by decide) hr (by omega) rfl ?_
    refine X_alen (nx := 46) dX0_init_45 rfl (by omega) (Or.inr rfl) ?_
    refine X_icmp_ge (tgt := 68) (nx := 49) dX0_init_46 rfl rfl (fun h46 => ?_) (fun h46 => ?_)
    · exact X_ret ⟨rfl, dX0_init_68⟩ (by omega) ⟨rfl, (((by rw [show i = 10 by omega] at h; exact h : PGC IM (TBK 1 10) 1 4 27 σ0 σ)).eqT (T' := P0) (fun c x y => tb10 c) (by omega)).con (by omega) hb.1 hb.2.2.1⟩
    · exact absurd h46 (fun q => q (nI_le (a := 10) (by omega) (by omega)))
  | succ m ih =>
    intro i σ hi h
    have hn := h.1
    have hb := book_P (b := 1) (by unfold isB; omega)
    have hr : σ.2.1 1 2 = some 4 := (h.2.2.1 2).trans ((if_pos (by omega)).trans ((congrFun (TBK_ne (by omega)) 2).trans rfl))
    have f := rt_facts 1 (by decide) i (by omega)
    refine X_iload_n (nx := 41) dX0_init_40 rfl rfl rfl ?_
    refine X_aload_n (nx := 42) dX0_init_41 rfl rfl rfl ?_
    refine X_getP (b := 4) (nx := 45) dX0_init_42 rfl fl_RX0_20 (by decide) hr (by omega) rfl ?_
    refine X_alen (nx := 46) dX0_init_45 rfl (by omega) (Or.inr rfl) ?_
    refine X_icmp_ge (tgt := 68) (nx := 49) dX0_init_46 rfl rfl (fun h46 => ?_) (fun h46 => ?_)
    · exact absurd h46 (nI_ge (b := 10) (by omega) (by omega))
    · skip
      refine X_aload_n (nx := 50) dX0_init_49 rfl rfl rfl ?_
      refine X_getP (b := 4) (nx := 53) dX0_init_50 rfl fl_RX0_20 (by decide) hr (by omega) rfl ?_
      refine X_iload_n (nx := 54) dX0_init_53 rfl rfl rfl ?_
      have e := h.1
      refine X_new (nx := 57) dX0_init_54 rfl cf_X4 cl_RX0_18 in_RX4.1 in_RX4.2 (by rw [e]; exact f.1) (by omega) ⟨ok3 (by omega), ok_r (by omega) (fun v hv => Or.inr ⟨_, List.mem_singleton.mp hv⟩)⟩ ?_
      refine X_dup (nx := 58) dX0_init_57 rfl rfl ?_
      refine X_callI (a := σ.1) (As := []) (rest := [.ref σ.1, .int (nI i), .ref 4]) (k' := 1 + 6 + 2 * i + 2) (Q' := fun vs σ' => vs = [] ∧ CON IM P0 (1 + 6 + 2 * i) (1 + 6 + 2 * i + 2) (newW σ) σ') (nx := 61) dX0_init_58 rfl ml_RX0_24 kj_X4_init ki_X4_init rfl rfl (by rw [e]; exact sp_X4_any f.1 f.2.1 f.2.2.1 (gd_none f.2.2.2.1) (p0_nil f.2.2.2.2.1) (im_0 ⟨f.2.2.2.2.2.2.2.1, by omega, by omega, by omega, by omega⟩) f.2.2.2.2.2.1 (NEWC.of e)) rfl (by decide) rfl (Nat.le_of_ble_eq_true rfl) (by show σ.1 + 1 ≤ _; omega) (by omega) (Or.inr ⟨ok4 (by show _ < σ.1 + 1; omega) (by show _ < σ.1 + 1; omega), ok_r' trivial (by show _ < σ.1 + 1; omega)⟩) (fun vs σ1 g => ?_)
      obtain ⟨g1, g2⟩ := g
      subst g1
      have e1 := g2.1
      refine X_aast (nx := 62) dX0_init_61 rfl (by omega) rfl (by omega) (by rw [e]; exact f.1) (fun q => q.elim (fun w => nI_neg (by omega) w) (fun w => by rw [clamp (by omega)] at w; exact absurd (show 10 ≤ i from w) (by omega))) ?_
      rw [clamp (by omega), e]
      refine X_iinc (nx := 65) dX0_init_62 rfl (by decide) rfl (by first | exact ii1 _ | rfl) rfl (st_s (st_0)) ?_
      refine X_goto (tgt := 40) dX0_init_65 rfl ?_
      exact ih (i + 1) _ (by omega) (h.aast (by omega) f.2.2.2.2.2.2.1 g2)
theorem sp_X0_init_1 {σ : Wd} (h : NEWC 1 σ) : E 3 27 j_X0_init [.ref 1] σ (fun vs σ' => vs = [] ∧ CON IM P0 1 27 σ σ') := by
  refine E.start 1 (ls := [some (.ref 1), none]) (by decide +kernel) (Nat.le_of_ble_eq_true rfl) rfl (by rw [h.1]; omega) (by omega) ?_
  have h0 := h.pg (I := IM) (Tp := TBK 1 0)
  have tn : ∀ c, c ≠ 1 + 3 → TBK 1 0 c = P0 c := fun c hc => TBK_ne hc
  refine X_aload_n (nx := 1) dX0_init_0 rfl rfl rfl ?_
  refine X_objInit (nx := 4) dX0_init_1 rfl ml_RX0_3 oi_1 oi_2 (by decide) (by decide) ?_
  refine X_aload_n (nx := 5) dX0_init_4 rfl rfl rfl ?_
  refine X_iconst (v := 3) (nx := 6) dX0_init_5 rfl rfl ?_
  refine C_arr (L := 3) h0 dX0_init_6 rfl dX0_init_8 rfl (by decide) (by decide) rfl (by decide) (by omega) cf_X0 (by decide) (bg_in 72 (by decide +kernel) rfl) rfl rfl (by decide) rfl rfl ((tn 2 (by omega)).trans (p0_nil rfl)) (im_0 (by decide)) (ok_r (by omega) (fun v hv => Or.inl (List.mem_singleton.mp hv))) (by omega) (fun σ1 h1 => ?_)
  refine X_aload_n (nx := 12) dX0_init_11 rfl rfl rfl ?_
  refine X_iconst (v := 3) (nx := 13) dX0_init_12 rfl rfl ?_
  refine C_arr (L := 3) h1 dX0_init_13 rfl dX0_init_15 rfl (by decide) (by decide) rfl (by decide) (by omega) cf_X0 (by decide) (bg_in 76 (by decide +kernel) rfl) rfl rfl (by decide) rfl rfl ((tn 3 (by omega)).trans (p0_nil rfl)) (im_0 (by decide)) (ok_r (by omega) (fun v hv => Or.inl (List.mem_singleton.mp hv))) (by omega) (fun σ2 h2 => ?_)
  refine X_aload_n (nx := 19) dX0_init_18 rfl rfl rfl ?_
  refine X_bipush (v := 10) (nx := 21) dX0_init_19 rfl rfl ?_
  refine C_newq (L := 10) h2 dX0_init_21 rfl dX0_init_24 rfl cl_RX0_18 (by decide) (by decide) rfl (by decide) (by omega) cf_X0 (by decide) (bg_in 80 (by decide +kernel) rfl) rfl rfl (by decide) rfl rfl TBK_0 (im_0 (by decide)) (ok_r (by omega) (fun v hv => Or.inl (List.mem_singleton.mp hv))) (by omega) (fun σ3 h3 => ?_)
  refine X_aload_n (nx := 28) dX0_init_27 rfl rfl rfl ?_
  refine C_obj (m := 7) (d' := 2) h3 dX0_init_28 rfl dX0_init_31 rfl dX0_init_32 rfl dX0_init_35 rfl cf_X4 cl_RX0_18 in_RX4 rfl (by omega) ml_RX0_24 kj_X4_init ki_X4_init rfl rfl (fun τ hτ => sp_X4_any rfl rfl rfl (fun i hi => (congrFun (tn 5 (by omega)) i).trans (gd_none (l := ptT.getD 5 []) rfl i hi)) ((tn 6 (by omega)).trans (p0_nil rfl)) (im_0 (by decide)) (by decide) hτ) (by decide) (by omega) (by omega) cf_X0 (by decide) (bg_in 81 (by decide +kernel) rfl) rfl rfl (by decide) rfl rfl (ok_r (by omega) (fun v hv => Or.inl (List.mem_singleton.mp hv))) (by omega) (fun σ4 h4 => ?_)
  refine X_iconst (v := nI 0) (nx := 39) dX0_init_38 rfl rfl ?_
  refine X_istore_n (i := 1) (nx := 40) dX0_init_39 rfl rfl (by decide) rfl (st_s (st_0)) ?_
  exact lp_X0_init_1 10 0 σ4 rfl h4
theorem lp_X0_init_27 {σ0 : Wd} : ∀ (m : Nat) (i : Nat) (σ : Wd), i + m = 10 → PGC IM (TBK 27 i) 27 4 (27 + 6 + 2 * i) σ0 σ → X 3 53 j_X0_init 40 [some (.ref 27), some (.int (nI i))] [] σ (fun vs σ' => vs = [] ∧ CON IM P0 27 53 σ0 σ') := by
  intro m
  induction m with
  | zero =>
    intro i σ hi h
    have hn := h.1
    have hb := book_P (b := 27) (by unfold isB; omega)
    have hr : σ.2.1 27 2 = some 30 := (h.2.2.1 2).trans ((if_pos (by omega)).trans ((congrFun (TBK_ne (by omega)) 2).trans rfl))
    have tb10 : ∀ c, TBK 27 10 c = P0 c := fun c => by
      by_cases q : c = 27 + 3
      · subst q
        funext k
        unfold TBK
        by_cases w : 10 ≤ k
        · rw [if_pos ⟨rfl, w⟩]; exact (hb.2.1 k w).symm
        · rw [if_neg (fun z => w z.2)]
      · exact TBK_ne q
    refine X_iload_n (nx := 41) dX0_init_40 rfl rfl rfl ?_
    refine X_aload_n (nx := 42) dX0_init_41 rfl rfl rfl ?_
    refine X_getP (b := 30) (nx := 45) dX0_init_42 rfl fl_RX0_20 (by decide) hr (by omega) rfl ?_
    refine X_alen (nx := 46) dX0_init_45 rfl (by omega) (Or.inr rfl) ?_
    refine X_icmp_ge (tgt := 68) (nx := 49) dX0_init_46 rfl rfl (fun h46 => ?_) (fun h46 => ?_)
    · exact X_ret ⟨rfl, dX0_init_68⟩ (by omega) ⟨rfl, (((by rw [show i = 10 by omega] at h; exact h : PGC IM (TBK 27 10) 27 4 53 σ0 σ)).eqT (T' := P0) (fun c x y => tb10 c) (by omega)).con (by omega) hb.1 hb.2.2.1⟩
    · exact absurd h46 (fun q => q (nI_le (a := 10) (by omega) (by omega)))
  | succ m ih =>
    intro i σ hi h
    have hn := h.1
    have hb := book_P (b := 27) (by unfold isB; omega)
    have hr : σ.2.1 27 2 = some 30 := (h.2.2.1 2).trans ((if_pos (by omega)).trans ((congrFun (TBK_ne (by omega)) 2).trans rfl))
    have f := rt_facts 27 (by decide) i (by omega)
    refine X_iload_n (nx := 41) dX0_init_40 rfl rfl rfl ?_
    refine X_aload_n (nx := 42) dX0_init_41 rfl rfl rfl ?_
    refine X_getP (b := 30) (nx := 45) dX0_init_42 rfl fl_RX0_20 (by decide) hr (by omega) rfl ?_
    refine X_alen (nx := 46) dX0_init_45 rfl (by omega) (Or.inr rfl) ?_
    refine X_icmp_ge (tgt := 68) (nx := 49) dX0_init_46 rfl rfl (fun h46 => ?_) (fun h46 => ?_)
    · exact absurd h46 (nI_ge (b := 10) (by omega) (by omega))
    · skip
      refine X_aload_n (nx := 50) dX0_init_49 rfl rfl rfl ?_
      refine X_getP (b := 30) (nx := 53) dX0_init_50 rfl fl_RX0_20 (by decide) hr (by omega) rfl ?_
      refine X_iload_n (nx := 54) dX0_init_53 rfl rfl rfl ?_
      have e := h.1
      refine X_new (nx := 57) dX0_init_54 rfl cf_X4 cl_RX0_18 in_RX4.1 in_RX4.2 (by rw [e]; exact f.1) (by omega) ⟨ok3 (by omega), ok_r (by omega) (fun v hv => Or.inr ⟨_, List.mem_singleton.mp hv⟩)⟩ ?_
      refine X_dup (nx := 58) dX0_init_57 rfl rfl ?_
      refine X_callI (a := σ.1) (As := []) (rest := [.ref σ.1, .int (nI i), .ref 30]) (k' := 27 + 6 + 2 * i + 2) (Q' := fun vs σ' => vs = [] ∧ CON IM P0 (27 + 6 + 2 * i) (27 + 6 + 2 * i + 2) (newW σ) σ') (nx := 61) dX0_init_58 rfl ml_RX0_24 kj_X4_init ki_X4_init rfl rfl (by rw [e]; exact sp_X4_any f.1 f.2.1 f.2.2.1 (gd_none f.2.2.2.1) (p0_nil f.2.2.2.2.1) (im_0 ⟨f.2.2.2.2.2.2.2.1, by omega, by omega, by omega, by omega⟩) f.2.2.2.2.2.1 (NEWC.of e)) rfl (by decide) rfl (Nat.le_of_ble_eq_true rfl) (by show σ.1 + 1 ≤ _; omega) (by omega) (Or.inr ⟨ok4 (by show _ < σ.1 + 1; omega) (by show _ < σ.1 + 1; omega), ok_r' trivial (by show _ < σ.1 + 1; omega)⟩) (fun vs σ1 g => ?_)
      obtain ⟨g1, g2⟩ := g
      subst g1
      have e1 := g2.1
      refine X_aast (nx := 62) dX0_init_61 rfl (by omega) rfl (by omega) (by rw [e]; exact f.1) (fun q => q.elim (fun w => nI_neg (by omega) w) (fun w => by rw [clamp (by omega)] at w; exact absurd (show 10 ≤ i from w) (by omega))) ?_
      rw [clamp (by omega), e]
      refine X_iinc (nx := 65) dX0_init_62 rfl (by decide) rfl (by first | exact ii1 _ | rfl) rfl (st_s (st_0)) ?_
      refine X_goto (tgt := 40) dX0_init_65 rfl ?_
      exact ih (i + 1) _ (by omega) (h.aast (by omega) f.2.2.2.2.2.2.1 g2)
theorem sp_X0_init_27 {σ : Wd} (h : NEWC 27 σ) : E 3 53 j_X0_init [.ref 27] σ (fun vs σ' => vs = [] ∧ CON IM P0 27 53 σ σ') := by
  refine E.start 1 (ls := [some (.ref 27), none]) (by decide +kernel) (Nat.le_of_ble_eq_true rfl) rfl (by rw [h.1]; omega) (by omega) ?_
  have h0 := h.pg (I := IM) (Tp := TBK 27 0)
  have tn : ∀ c, c ≠ 27 + 3 → TBK 27 0 c = P0 c := fun c hc => TBK_ne hc
  refine X_aload_n (nx := 1) dX0_init_0 rfl rfl rfl ?_
  refine X_objInit (nx := 4) dX0_init_1 rfl ml_RX0_3 oi_1 oi_2 (by decide) (by decide) ?_
  refine X_aload_n (nx := 5) dX0_init_4 rfl rfl rfl ?_
  refine X_iconst (v := 3) (nx := 6) dX0_init_5 rfl rfl ?_
  refine C_arr (L := 3) h0 dX0_init_6 rfl dX0_init_8 rfl (by decide) (by decide) rfl (by decide) (by omega) cf_X0 (by decide) (bg_in 72 (by decide +kernel) rfl) rfl rfl (by decide) rfl rfl ((tn 28 (by omega)).trans (p0_nil rfl)) (im_0 (by decide)) (ok_r (by omega) (fun v hv => Or.inl (List.mem_singleton.mp hv))) (by omega) (fun σ1 h1 => ?_)
  refine X_aload_n (nx := 12) dX0_init_11 rfl rfl rfl ?_
  refine X_iconst (v := 3) (nx := 13) dX0_init_12 rfl rfl ?_
  refine C_arr (L := 3) h1 dX0_init_13 rfl dX0_init_15 rfl (by decide) (by decide) rfl (by decide) (by omega) cf_X0 (by decide) (bg_in 76 (by decide +kernel) rfl) rfl rfl (by decide) rfl rfl ((tn 29 (by omega)).trans (p0_nil rfl)) (im_0 (by decide)) (ok_r (by omega) (fun v hv => Or.inl (List.mem_singleton.mp hv))) (by omega) (fun σ2 h2 => ?_)
  refine X_aload_n (nx := 19) dX0_init_18 rfl rfl rfl ?_
  refine X_bipush (v := 10) (nx := 21) dX0_init_19 rfl rfl ?_
  refine C_newq (L := 10) h2 dX0_init_21 rfl dX0_init_24 rfl cl_RX0_18 (by decide) (by decide) rfl (by decide) (by omega) cf_X0 (by decide) (bg_in 80 (by decide +kernel) rfl) rfl rfl (by decide) rfl rfl TBK_0 (im_0 (by decide)) (ok_r (by omega) (fun v hv => Or.inl (List.mem_singleton.mp hv))) (by omega) (fun σ3 h3 => ?_)
  refine X_aload_n (nx := 28) dX0_init_27 rfl rfl rfl ?_
  refine C_obj (m := 33) (d' := 2) h3 dX0_init_28 rfl dX0_init_31 rfl dX0_init_32 rfl dX0_init_35 rfl cf_X4 cl_RX0_18 in_RX4 rfl (by omega) ml_RX0_24 kj_X4_init ki_X4_init rfl rfl (fun τ hτ => sp_X4_any rfl rfl rfl (fun i hi => (congrFun (tn 31 (by omega)) i).trans (gd_none (l := ptT.getD 31 []) rfl i hi)) ((tn 32 (by omega)).trans (p0_nil rfl)) (im_0 (by decide)) (by decide) hτ) (by decide) (by omega) (by omega) cf_X0 (by decide) (bg_in 81 (by decide +kernel) rfl) rfl rfl (by decide) rfl rfl (ok_r (by omega) (fun v hv => Or.inl (List.mem_singleton.mp hv))) (by omega) (fun σ4 h4 => ?_)
  refine X_iconst (v := nI 0) (nx := 39) dX0_init_38 rfl rfl ?_
  refine X_istore_n (i := 1) (nx := 40) dX0_init_39 rfl rfl (by decide) rfl (st_s (st_0)) ?_
  exact lp_X0_init_27 10 0 σ4 rfl h4
theorem lp_X0_init_53 {σ0 : Wd} : ∀ (m : Nat) (i : Nat) (σ : Wd), i + m = 10 → PGC IM (TBK 53 i) 53 4 (53 + 6 + 2 * i) σ0 σ → X 3 79 j_X0_init 40 [some (.ref 53), some (.int (nI i))] [] σ (fun vs σ' => vs = [] ∧ CON IM P0 53 79 σ0 σ') := by
  intro m
  induction m with
  | zero =>
    intro i σ hi h
    have hn := h.1
    have hb := book_P (b := 53) (by unfold isB; omega)
    have hr : σ.2.1 53 2 = some 56 := (h.2.2.1 2).trans ((if_pos (by omega)).trans ((congrFun (TBK_ne (by omega)) 2).trans rfl))
    have tb10 : ∀ c, TBK 53 10 c = P0 c := fun c => by
      by_cases q : c = 53 + 3
      · subst q
        funext k
        unfold TBK
        by_cases w : 10 ≤ k
        · rw [if_pos ⟨rfl, w⟩]; exact (hb.2.1 k w).symm
        · rw [if_neg (fun z => w z.2)]
      · exact TBK_ne q
    refine X_iload_n (nx := 41) dX0_init_40 rfl rfl rfl ?_
    refine X_aload_n (nx := 42) dX0_init_41 rfl rfl rfl ?_
    refine X_getP (b := 56) (nx := 45) dX0_init_42 rfl fl_RX0_20 (by decide) hr (by omega) rfl ?_
    refine X_alen (nx := 46) dX0_init_45 rfl (by omega) (Or.inr rfl) ?_
    refine X_icmp_ge (tgt := 68) (nx := 49) dX0_init_46 rfl rfl (fun h46 => ?_) (fun h46 => ?_)
    · exact X_ret ⟨rfl, dX0_init_68⟩ (by omega) ⟨rfl, (((by rw [show i = 10 by omega] at h; exact h : PGC IM (TBK 53 10) 53 4 79 σ0 σ)).eqT (T' := P0) (fun c x y => tb10 c) (by omega)).con (by omega) hb.1 hb.2.2.1⟩
    · exact absurd h46 (fun q => q (nI_le (a := 10) (by omega) (by omega)))
  | succ m ih =>
    intro i σ hi h
    have hn := h.1
    have hb := book_P (b := 53) (by unfold isB; omega)
    have hr : σ.2.1 53 2 = some 56 := (h.2.2.1 2).trans ((if_pos (by omega)).trans ((congrFun (TBK_ne (by omega)) 2).trans rfl))
    have f := rt_facts 53 (by decide) i (by omega)
    refine X_iload_n (nx := 41) dX0_init_40 rfl rfl rfl ?_
    refine X_aload_n (nx := 42) dX0_init_41 rfl rfl rfl ?_
    refine X_getP (b := 56) (nx := 45) dX0_init_42 rfl fl_RX0_20 (by decide) hr (by omega) rfl ?_
    refine X_alen (nx := 46) dX0_init_45 rfl (by omega) (Or.inr rfl) ?_
    refine X_icmp_ge (tgt := 68) (nx := 49) dX0_init_46 rfl rfl (fun h46 => ?_) (fun h46 => ?_)
    · exact absurd h46 (nI_ge (b := 10) (by omega) (by omega))
    · skip
      refine X_aload_n (nx := 50) dX0_init_49 rfl rfl rfl ?_
      refine X_getP (b := 56) (nx := 53) dX0_init_50 rfl fl_RX0_20 (by decide) hr (by omega) rfl ?_
      refine X_iload_n (nx := 54) dX0_init_53 rfl rfl rfl ?_
      have e := h.1
      refine X_new (nx := 57) dX0_init_54 rfl cf_X4 cl_RX0_18 in_RX4.1 in_RX4.2 (by rw [e]; exact f.1) (by omega) ⟨ok3 (by omega), ok_r (by omega) (fun v hv => Or.inr ⟨_, List.mem_singleton.mp hv⟩)⟩ ?_
      refine X_dup (nx := 58) dX0_init_57 rfl rfl ?_
      refine X_callI (a := σ.1) (As := []) (rest := [.ref σ.1, .int (nI i), .ref 56]) (k' := 53 + 6 + 2 * i + 2) (Q' := fun vs σ' => vs = [] ∧ CON IM P0 (53 + 6 + 2 * i) (53 + 6 + 2 * i + 2) (newW σ) σ') (nx := 61) dX0_init_58 rfl ml_RX0_24 kj_X4_init ki_X4_init rfl rfl (by rw [e]; exact sp_X4_any f.1 f.2.1 f.2.2.1 (gd_none f.2.2.2.1) (p0_nil f.2.2.2.2.1) (im_0 ⟨f.2.2.2.2.2.2.2.1, by omega, by omega, by omega, by omega⟩) f.2.2.2.2.2.1 (NEWC.of e)) rfl (by decide) rfl (Nat.le_of_ble_eq_true rfl) (by show σ.1 + 1 ≤ _; omega) (by omega) (Or.inr ⟨ok4 (by show _ < σ.1 + 1; omega) (by show _ < σ.1 + 1; omega), ok_r' trivial (by show _ < σ.1 + 1; omega)⟩) (fun vs σ1 g => ?_)
      obtain ⟨g1, g2⟩ := g
      subst g1
      have e1 := g2.1
      refine X_aast (nx := 62) dX0_init_61 rfl (by omega) rfl (by omega) (by rw [e]; exact f.1) (fun q => q.elim (fun w => nI_neg (by omega) w) (fun w => by rw [clamp (by omega)] at w; exact absurd (show 10 ≤ i from w) (by omega))) ?_
      rw [clamp (by omega), e]
      refine X_iinc (nx := 65) dX0_init_62 rfl (by decide) rfl (by first | exact ii1 _ | rfl) rfl (st_s (st_0)) ?_
      refine X_goto (tgt := 40) dX0_init_65 rfl ?_
      exact ih (i + 1) _ (by omega) (h.aast (by omega) f.2.2.2.2.2.2.1 g2)
theorem sp_X0_init_53 {σ : Wd} (h : NEWC 53 σ) : E 3 79 j_X0_init [.ref 53] σ (fun vs σ' => vs = [] ∧ CON IM P0 53 79 σ σ') := by
  refine E.start 1 (ls := [some (.ref 53), none]) (by decide +kernel) (Nat.le_of_ble_eq_true rfl) rfl (by rw [h.1]; omega) (by omega) ?_
  have h0 := h.pg (I := IM) (Tp := TBK 53 0)
  have tn : ∀ c, c ≠ 53 + 3 → TBK 53 0 c = P0 c := fun c hc => TBK_ne hc
  refine X_aload_n (nx := 1) dX0_init_0 rfl rfl rfl ?_
  refine X_objInit (nx := 4) dX0_init_1 rfl ml_RX0_3 oi_1 oi_2 (by decide) (by decide) ?_
  refine X_aload_n (nx := 5) dX0_init_4 rfl rfl rfl ?_
  refine X_iconst (v := 3) (nx := 6) dX0_init_5 rfl rfl ?_
  refine C_arr (L := 3) h0 dX0_init_6 rfl dX0_init_8 rfl (by decide) (by decide) rfl (by decide) (by omega) cf_X0 (by decide) (bg_in 72 (by decide +kernel) rfl) rfl rfl (by decide) rfl rfl ((tn 54 (by omega)).trans (p0_nil rfl)) (im_0 (by decide)) (ok_r (by omega) (fun v hv => Or.inl (List.mem_singleton.mp hv))) (by omega) (fun σ1 h1 => ?_)
  refine X_aload_n (nx := 12) dX0_init_11 rfl rfl rfl ?_
  refine X_iconst (v := 3) (nx := 13) dX0_init_12 rfl rfl ?_
  refine C_arr (L := 3) h1 dX0_init_13 rfl dX0_init_15 rfl (by decide) (by decide) rfl (by decide) (by omega) cf_X0 (by decide) (bg_in 76 (by decide +kernel) rfl) rfl rfl (by decide) rfl rfl ((tn 55 (by omega)).trans (p0_nil rfl)) (im_0 (by decide)) (ok_r (by omega) (fun v hv => Or.inl (List.mem_singleton.mp hv))) (by omega) (fun σ2 h2 => ?_)
  refine X_aload_n (nx := 19) dX0_init_18 rfl rfl rfl ?_
  refine X_bipush (v := 10) (nx := 21) dX0_init_19 rfl rfl ?_
  refine C_newq (L := 10) h2 dX0_init_21 rfl dX0_init_24 rfl cl_RX0_18 (by decide) (by decide) rfl (by decide) (by omega) cf_X0 (by decide) (bg_in 80 (by decide +kernel) rfl) rfl rfl (by decide) rfl rfl TBK_0 (im_0 (by decide)) (ok_r (by omega) (fun v hv => Or.inl (List.mem_singleton.mp hv))) (by omega) (fun σ3 h3 => ?_)
  refine X_aload_n (nx := 28) dX0_init_27 rfl rfl rfl ?_
  refine C_obj (m := 59) (d' := 2) h3 dX0_init_28 rfl dX0_init_31 rfl dX0_init_32 rfl dX0_init_35 rfl cf_X4 cl_RX0_18 in_RX4 rfl (by omega) ml_RX0_24 kj_X4_init ki_X4_init rfl rfl (fun τ hτ => sp_X4_any rfl rfl rfl (fun i hi => (congrFun (tn 57 (by omega)) i).trans (gd_none (l := ptT.getD 57 []) rfl i hi)) ((tn 58 (by omega)).trans (p0_nil rfl)) (im_0 (by decide)) (by decide) hτ) (by decide) (by omega) (by omega) cf_X0 (by decide) (bg_in 81 (by decide +kernel) rfl) rfl rfl (by decide) rfl rfl (ok_r (by omega) (fun v hv => Or.inl (List.mem_singleton.mp hv))) (by omega) (fun σ4 h4 => ?_)
  refine X_iconst (v := nI 0) (nx := 39) dX0_init_38 rfl rfl ?_
  refine X_istore_n (i := 1) (nx := 40) dX0_init_39 rfl rfl (by decide) rfl (st_s (st_0)) ?_
  exact lp_X0_init_53 10 0 σ4 rfl h4
