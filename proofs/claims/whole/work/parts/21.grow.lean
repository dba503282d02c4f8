/-! PLANT, EMPTY, WAYS, GROW -/
/-- a route as a table lets it be -/
def VR (B : Bk) (i : Nat) : Prop := ro_ B i < 3 ∧ VS (sg_ B i) ∧ ((mo_ B i = -9 ∧ ∃ v, v < 4 ∧ vb_ B i = nI v) ∨ (vb_ B i = -9 ∧ ∃ m, mo_ B i = nI m ∧ ro_ B i < m ∧ m < 3 ∧ pl (sg_ B i) = (sg_ B i).length))
def VB (B : Bk) : Prop := (∀ i, i < 3 → kd_ B i ≤ 5 ∧ fg_ B i ≤ 9) ∧ cm_ B ≤ 10 ∧ ∀ i, i < cm_ B → VR B i
theorem VR.mount {B : Bk} {i : Nat} (h : VR B i) (hm : mtB B i = true) : ∃ m, mo_ B i = nI m ∧ ro_ B i < m ∧ m < 3 ∧ pl (sg_ B i) = (sg_ B i).length := by
  rcases h.2.2 with ⟨h1, _⟩ | ⟨_, h1⟩
  · unfold mtB at hm; rw [h1] at hm; exact absurd hm (by decide)
  · exact h1
theorem VR.endv {B : Bk} {i : Nat} (h : VR B i) (hm : mtB B i = false) : mo_ B i = -9 ∧ ∃ v, v < 4 ∧ vb_ B i = nI v := by
  rcases h.2.2 with h1 | ⟨_, m, h1, _, h2, _⟩
  · exact h1
  · unfold mtB at hm; rw [h1, decide_eq_true (nI_pos' (by omega))] at hm; cases hm
/-- what is planted so far, and one more -/
def TEi (D : Mem) (B : Bk) (nl : List Nd) (PS EN RS MN : Nd → Nat → Bool) (SV : Nat → Nat → Bool) (MO : Nat → Bool) (i : Nat) : Prop :=
  TE D B nl (adF PS (PSf B) i) (adF EN (ENf B) i) (adF RS (RSf B) i) (adF MN (MNf B) i) (fun v r => SV v r || (decide (r = i) && SVf B v i)) (fun r => MO r || (decide (r = i) && mtB B i))
theorem PSk_L {B : Bk} {PS : Nd → Nat → Bool} {i : Nat} (q : Nd) (r : Nat) : adF PS (PSf B) i q r = PSk B PS i (es_ B i).length q r := by
  unfold adF PSk
  cases hp : PSf B q i with
  | false => rfl
  | true =>
    have e := PSf_eq hp
    have : q.2.length ≤ (es_ B i).length := by
      have := congrArg (fun z : Nd => z.2.length) e
      simp at this
      omega
    rw [decide_eq_true this]; simp
section PL
variable {B : Bk} {nl0 : List Nd} {PS EN RS MN : Nd → Nat → Bool} {SV : Nat → Nat → Bool} {MO : Nat → Bool} {i : Nat}
theorem TEi.ofM {D : Mem} {nl : List Nd} {j : Nat} (h : TE D B nl (PSk B PS i (es_ B i).length) EN RS MN SV MO) (hj : j < nl.length) (hq : ng nl j = (ro_ B i, es_ B i)) (ht : thN B i = true) (hm : mtB B i = true) (hi : i < 10) : TEi (up2 (up2 D 86 j (nI (mkn (MN (ng nl j)) 10 ||| 2 ^ i))) 87 i (mo_ B i)) B nl PS EN RS MN SV MO i := by
  refine TE.congr ((h.markMN hj hi).mountd (i := i)) (fun q r _ => PSk_L q r) (fun q r _ => ?_) (fun q r _ => ?_) (fun q r _ => ?_) (fun v r _ => ?_) (fun r _ hr => ?_)
  · unfold adF ENf; rw [hm]; simp
  · unfold adF RSf; rw [hm]; simp
  · unfold adF MNf uq; rw [hm, AT_iff ht, hq]; simp only [Bool.and_true]; rw [Bool.and_comm]
  · unfold SVf; rw [hm]; simp
  · rw [hm, Bool.and_true] at hr; exact hr
theorem TEi.ofE {D : Mem} {nl : List Nd} (h : TE D B nl (PSk B PS i (es_ B i).length) (adF EN (ENf B) i) (adF RS (RSf B) i) MN (fun v r => SV v r || (decide (v < 4) && (decide (r = i) && (srv (vb_ B i)).testBit v))) MO) (ht : thN B i = true) (hm : mtB B i = false) (hs : ∀ v, 4 ≤ v → (srv (vb_ B i)).testBit v = false) : TEi D B nl PS EN RS MN SV MO i := by
  refine TE.congr h (fun q r _ => PSk_L q r) (fun q r _ => rfl) (fun q r _ => rfl) (fun q r _ => ?_) (fun v r _ => ?_) (fun r _ hr => ?_)
  · unfold adF MNf; rw [hm]; simp
  · unfold SVf
    rw [ht, hm]
    by_cases hv : v < 4
    · rw [decide_eq_true hv]; simp
    · rw [hs v (by omega)]; simp
  · rw [hm] at hr; simpa using hr
theorem en_m {nl : List Nd} {j : Nat} (hq : ng nl j = (ro_ B i, es_ B i)) (ht : thN B i = true) (hm : mtB B i = false) (hr : rsB B i = false) (q : Nd) (r : Nat) : adF EN (ENf B) i q r = uq EN (ng nl j) i q r := by
  unfold adF ENf uq; rw [hm, hr, AT_iff ht, hq]; simp only [Bool.not_false, Bool.and_true]; rw [Bool.and_comm]
theorem en_r (hr : rsB B i = true) (q : Nd) (r : Nat) : adF EN (ENf B) i q r = EN q r := by
  unfold adF ENf; rw [hr]; simp
theorem rs_m {nl : List Nd} {j : Nat} (hq : ng nl j = (ro_ B i, es_ B i)) (ht : thN B i = true) (hm : mtB B i = false) (hr : rsB B i = true) (q : Nd) (r : Nat) : adF RS (RSf B) i q r = uq RS (ng nl j) i q r := by
  unfold adF RSf uq; rw [hm, hr, AT_iff ht, hq]; simp only [Bool.not_false, Bool.and_true, Bool.true_and]; rw [Bool.and_comm]
theorem rs_e (hr : rsB B i = false) (q : Nd) (r : Nat) : adF RS (RSf B) i q r = RS q r := by
  unfold adF RSf; rw [hr]; simp
def PLT (B : Bk) (nl0 : List Nd) (PS EN RS MN : Nd → Nat → Bool) (SV : Nat → Nat → Bool) (MO : Nat → Bool) (i : Nat) (D D' : Mem) : Prop := TEi D' B (adP nl0 (ro_ B i) (es_ B i) (es_ B i).length) PS EN RS MN SV MO i ∧ Fr inT D D'
end PL
theorem Enc.frT {D D' : Mem} {B : Bk} (h : Enc D 1 B) (hf : Fr inT D D') : Enc D' 1 B := h.fr (fun x hx => hf x (by unfold inB at hx; unfold inT; omega))
theorem X_fg5 {d k pc : Nat} {j : MI} {a b c d0 e o : Option Value} {st : List Value} {σ : Wd} {Q : List Value → Wd → Prop} (hX : X d k j pc [a, b, c, d0, e, none] st σ Q) : X d k j pc [a, b, c, d0, e, o] st σ Q := by
  refine X_forget (fun i v h => ?_) hX
  match i, h with
  | 0, h => exact h
  | 1, h => exact h
  | 2, h => exact h
  | 3, h => exact h
  | 4, h => exact h
  | 5, h => cases h
  | n + 6, h => cases h
theorem dX5_plant_0 : decode cX5_plant 0 = .ok (.aload_n 2, 1) := by decide +kernel
theorem dX5_plant_1 : decode cX5_plant 1 = .ok (.getfield 84, 3) := by decide +kernel
theorem dX5_plant_4 : decode cX5_plant 4 = .ok (.istore_n 3, 1) := by decide +kernel
theorem dX5_plant_5 : decode cX5_plant 5 = .ok (.iconst 0, 1) := by decide +kernel
theorem dX5_plant_6 : decode cX5_plant 6 = .ok (.istore 4, 2) := by decide +kernel
theorem dX5_plant_8 : decode cX5_plant 8 = .ok (.iload 4, 2) := by decide +kernel
theorem dX5_plant_10 : decode cX5_plant 10 = .ok (.aload_n 2, 1) := by decide +kernel
theorem dX5_plant_11 : decode cX5_plant 11 = .ok (.getfield 89, 3) := by decide +kernel
theorem dX5_plant_14 : decode cX5_plant 14 = .ok (.if_icmp .ge 73, 3) := by decide +kernel
theorem dX5_plant_17 : decode cX5_plant 17 = .ok (.iload_n 3, 1) := by decide +kernel
theorem dX5_plant_18 : decode cX5_plant 18 = .ok (.bipush 7, 2) := by decide +kernel
theorem dX5_plant_20 : decode cX5_plant 20 = .ok (.imul, 1) := by decide +kernel
theorem dX5_plant_21 : decode cX5_plant 21 = .ok (.aload_n 2, 1) := by decide +kernel
theorem dX5_plant_22 : decode cX5_plant 22 = .ok (.iload 4, 2) := by decide +kernel
theorem dX5_plant_24 : decode cX5_plant 24 = .ok (.invokevirtual 92, 3) := by decide +kernel
theorem dX5_plant_27 : decode cX5_plant 27 = .ok (.invokestatic 95, 3) := by decide +kernel
theorem dX5_plant_30 : decode cX5_plant 30 = .ok (.iadd, 1) := by decide +kernel
theorem dX5_plant_31 : decode cX5_plant 31 = .ok (.istore 5, 2) := by decide +kernel
theorem dX5_plant_33 : decode cX5_plant 33 = .ok (.aload_n 0, 1) := by decide +kernel
theorem dX5_plant_34 : decode cX5_plant 34 = .ok (.getfield 11, 3) := by decide +kernel
theorem dX5_plant_37 : decode cX5_plant 37 = .ok (.iload 5, 2) := by decide +kernel
theorem dX5_plant_39 : decode cX5_plant 39 = .ok (.invokestatic 63, 3) := by decide +kernel
theorem dX5_plant_42 : decode cX5_plant 42 = .ok (.ifCond .ge 20, 3) := by decide +kernel
theorem dX5_plant_45 : decode cX5_plant 45 = .ok (.aload_n 0, 1) := by decide +kernel
theorem dX5_plant_46 : decode cX5_plant 46 = .ok (.getfield 11, 3) := by decide +kernel
theorem dX5_plant_49 : decode cX5_plant 49 = .ok (.iload 5, 2) := by decide +kernel
theorem dX5_plant_51 : decode cX5_plant 51 = .ok (.aload_n 0, 1) := by decide +kernel
theorem dX5_plant_52 : decode cX5_plant 52 = .ok (.aload_n 2, 1) := by decide +kernel
theorem dX5_plant_53 : decode cX5_plant 53 = .ok (.getfield 84, 3) := by decide +kernel
theorem dX5_plant_56 : decode cX5_plant 56 = .ok (.invokevirtual 52, 3) := by decide +kernel
theorem dX5_plant_59 : decode cX5_plant 59 = .ok (.invokestatic 56, 3) := by decide +kernel
theorem dX5_plant_62 : decode cX5_plant 62 = .ok (.aload_n 0, 1) := by decide +kernel
theorem dX5_plant_63 : decode cX5_plant 63 = .ok (.getfield 11, 3) := by decide +kernel
theorem dX5_plant_66 : decode cX5_plant 66 = .ok (.iload 5, 2) := by decide +kernel
theorem dX5_plant_68 : decode cX5_plant 68 = .ok (.invokestatic 63, 3) := by decide +kernel
theorem dX5_plant_71 : decode cX5_plant 71 = .ok (.istore_n 3, 1) := by decide +kernel
theorem dX5_plant_72 : decode cX5_plant 72 = .ok (.aload_n 0, 1) := by decide +kernel
theorem dX5_plant_73 : decode cX5_plant 73 = .ok (.getfield 18, 3) := by decide +kernel
theorem dX5_plant_76 : decode cX5_plant 76 = .ok (.iload_n 3, 1) := by decide +kernel
theorem dX5_plant_77 : decode cX5_plant 77 = .ok (.iload_n 1, 1) := by decide +kernel
theorem dX5_plant_78 : decode cX5_plant 78 = .ok (.invokestatic 98, 3) := by decide +kernel
theorem dX5_plant_81 : decode cX5_plant 81 = .ok (.iinc 4 1, 3) := by decide +kernel
theorem dX5_plant_84 : decode cX5_plant 84 = .ok (.goto (-76), 3) := by decide +kernel
theorem dX5_plant_87 : decode cX5_plant 87 = .ok (.aload_n 2, 1) := by decide +kernel
theorem dX5_plant_88 : decode cX5_plant 88 = .ok (.invokevirtual 101, 3) := by decide +kernel
theorem dX5_plant_91 : decode cX5_plant 91 = .ok (.ifCond .eq 25, 3) := by decide +kernel
theorem dX5_plant_94 : decode cX5_plant 94 = .ok (.aload_n 0, 1) := by decide +kernel
theorem dX5_plant_95 : decode cX5_plant 95 = .ok (.getfield 27, 3) := by decide +kernel
theorem dX5_plant_98 : decode cX5_plant 98 = .ok (.iload_n 3, 1) := by decide +kernel
theorem dX5_plant_99 : decode cX5_plant 99 = .ok (.iload_n 1, 1) := by decide +kernel
theorem dX5_plant_100 : decode cX5_plant 100 = .ok (.invokestatic 98, 3) := by decide +kernel
theorem dX5_plant_103 : decode cX5_plant 103 = .ok (.aload_n 0, 1) := by decide +kernel
theorem dX5_plant_104 : decode cX5_plant 104 = .ok (.getfield 30, 3) := by decide +kernel
theorem dX5_plant_107 : decode cX5_plant 107 = .ok (.iload_n 1, 1) := by decide +kernel
theorem dX5_plant_108 : decode cX5_plant 108 = .ok (.aload_n 2, 1) := by decide +kernel
theorem dX5_plant_109 : decode cX5_plant 109 = .ok (.getfield 105, 3) := by decide +kernel
theorem dX5_plant_112 : decode cX5_plant 112 = .ok (.invokestatic 56, 3) := by decide +kernel
theorem dX5_plant_115 : decode cX5_plant 115 = .ok (.return_, 1) := by decide +kernel
theorem dX5_plant_116 : decode cX5_plant 116 = .ok (.aload_n 2, 1) := by decide +kernel
theorem dX5_plant_117 : decode cX5_plant 117 = .ok (.invokevirtual 107, 3) := by decide +kernel
theorem dX5_plant_120 : decode cX5_plant 120 = .ok (.ifCond .eq 10, 3) := by decide +kernel
theorem dX5_plant_123 : decode cX5_plant 123 = .ok (.aload_n 0, 1) := by decide +kernel
theorem dX5_plant_124 : decode cX5_plant 124 = .ok (.getfield 24, 3) := by decide +kernel
theorem dX5_plant_127 : decode cX5_plant 127 = .ok (.goto 7, 3) := by decide +kernel
theorem dX5_plant_130 : decode cX5_plant 130 = .ok (.aload_n 0, 1) := by decide +kernel
theorem dX5_plant_131 : decode cX5_plant 131 = .ok (.getfield 21, 3) := by decide +kernel
theorem dX5_plant_134 : decode cX5_plant 134 = .ok (.iload_n 3, 1) := by decide +kernel
theorem dX5_plant_135 : decode cX5_plant 135 = .ok (.iload_n 1, 1) := by decide +kernel
theorem dX5_plant_136 : decode cX5_plant 136 = .ok (.invokestatic 98, 3) := by decide +kernel
theorem dX5_plant_139 : decode cX5_plant 139 = .ok (.iconst 0, 1) := by decide +kernel
theorem dX5_plant_140 : decode cX5_plant 140 = .ok (.istore 4, 2) := by decide +kernel
theorem dX5_plant_142 : decode cX5_plant 142 = .ok (.iload 4, 2) := by decide +kernel
theorem dX5_plant_144 : decode cX5_plant 144 = .ok (.iconst 4, 1) := by decide +kernel
theorem dX5_plant_145 : decode cX5_plant 145 = .ok (.if_icmp .ge 34, 3) := by decide +kernel
theorem dX5_plant_148 : decode cX5_plant 148 = .ok (.aload_n 2, 1) := by decide +kernel
theorem dX5_plant_149 : decode cX5_plant 149 = .ok (.getfield 110, 3) := by decide +kernel
theorem dX5_plant_152 : decode cX5_plant 152 = .ok (.invokestatic 113, 3) := by decide +kernel
theorem dX5_plant_155 : decode cX5_plant 155 = .ok (.iload 4, 2) := by decide +kernel
theorem dX5_plant_157 : decode cX5_plant 157 = .ok (.invokestatic 116, 3) := by decide +kernel
theorem dX5_plant_160 : decode cX5_plant 160 = .ok (.ifCond .eq 13, 3) := by decide +kernel
theorem dX5_plant_163 : decode cX5_plant 163 = .ok (.aload_n 0, 1) := by decide +kernel
theorem dX5_plant_164 : decode cX5_plant 164 = .ok (.getfield 33, 3) := by decide +kernel
theorem dX5_plant_167 : decode cX5_plant 167 = .ok (.iload 4, 2) := by decide +kernel
theorem dX5_plant_169 : decode cX5_plant 169 = .ok (.iload_n 1, 1) := by decide +kernel
theorem dX5_plant_170 : decode cX5_plant 170 = .ok (.invokestatic 98, 3) := by decide +kernel
theorem dX5_plant_173 : decode cX5_plant 173 = .ok (.iinc 4 1, 3) := by decide +kernel
theorem dX5_plant_176 : decode cX5_plant 176 = .ok (.goto (-34), 3) := by decide +kernel
theorem dX5_plant_179 : decode cX5_plant 179 = .ok (.return_, 1) := by decide +kernel
theorem lp_plant_v {B : Bk} {nl0 : List Nd} {PS EN RS MN : Nd → Nat → Bool} {SV : Nat → Nat → Bool} {MO : Nat → Bool} {i : Nat} {D : Mem} (hE : Enc D 1 B) (hi : i < cm_ B) (ht : thN B i = true) (hV : VR B i) {j : Nat} (hm : mtB B i = false) : ∀ (m : Nat) (v : Nat) (D1 : Mem), v + m = 4 → Fr inT D D1 → TE D1 B (adP nl0 (ro_ B i) (es_ B i) (es_ B i).length) (PSk B PS i (es_ B i).length) (adF EN (ENf B) i) (adF RS (RSf B) i) MN (fun x r => SV x r || (decide (x < v) && (decide (r = i) && (srv (vb_ B i)).testBit x))) MO → X 3 138 j_X5_plant 142 [some (.ref 80), some (.int (nI i)), some (.ref (rt 1 i)), some (.int (nI j)), some (.int (nI v)), none] [] (138, P0, D1) (fun x σ => ∃ D' : Mem, x = [] ∧ σ = wd D' ∧ PLT B nl0 PS EN RS MN SV MO i D D') := by
  intro m
  induction m with
  | zero =>
    intro v D1 hv hf hT
    have hly : (lay 82).2 = 43 ∧ (lay 83).2 = 43 ∧ (lay 84).2 = 43 ∧ (lay 85).2 = 43 ∧ (lay 86).2 = 43 ∧ (lay 81).2 = 301 ∧ (lay 87).2 = 10 ∧ (lay 88).2 = 4 ∧ (lay 89).2 = 3 ∧ (lay 90).2 = 3 ∧ (lay 91).2 = 3 := by decide
    have hi10 : i < 10 := by have := hE.2.2.1; omega
    have hE1 := hE.frT hf
    obtain ⟨⟨b1, b2⟩, ⟨b3, b4, b5, b6⟩, ⟨b7, b8, b9⟩, ⟨c1, c2, c3⟩, ⟨c4, c5, c6⟩, c7, c8⟩ := isB.facts (b := 1) (Or.inl rfl)
    have hr := (c8 i hi10).2
    obtain ⟨r1, r2, r3, r4, r5, r6⟩ := hr.facts
    have hRT := hE1.2.2.2 i hi
    obtain ⟨x1, x2, x3, x4, x5⟩ := id hRT
    have hro := hV.1
    have hll := es_len B i
    have hpl := pl_le (sg_ B i)
    have hs4 := hV.2.1.1
    obtain ⟨hmo, w, hw, hvv⟩ := hV.endv hm
    refine X_iload (nx := 144) dX5_plant_142 rfl rfl ?_
    refine X_iconst (v := nI 4) (nx := 145) dX5_plant_144 rfl rfl ?_
    refine X_icmp_ge (tgt := 179) (nx := 148) dX5_plant_145 rfl rfl (fun h145 => ?_) (fun h145 => ?_)
    · skip
      exact Z_retv dX5_plant_179 rfl ⟨TEi.ofE (by rw [show v = 4 by omega] at hT; exact hT) ht hm (fun y hy => by rw [hvv, srv_n w hw]; have := srvm_lt w hw; exact Nat.testBit_lt_two_pow (Nat.lt_of_lt_of_le this (Nat.pow_le_pow_right (show 0 < 2 by omega) hy))), hf⟩
    · exact absurd h145 (fun q => q (nI_le (by omega) (by omega)))
  | succ m ih =>
    intro v D1 hv hf hT
    have hly : (lay 82).2 = 43 ∧ (lay 83).2 = 43 ∧ (lay 84).2 = 43 ∧ (lay 85).2 = 43 ∧ (lay 86).2 = 43 ∧ (lay 81).2 = 301 ∧ (lay 87).2 = 10 ∧ (lay 88).2 = 4 ∧ (lay 89).2 = 3 ∧ (lay 90).2 = 3 ∧ (lay 91).2 = 3 := by decide
    have hi10 : i < 10 := by have := hE.2.2.1; omega
    have hE1 := hE.frT hf
    obtain ⟨⟨b1, b2⟩, ⟨b3, b4, b5, b6⟩, ⟨b7, b8, b9⟩, ⟨c1, c2, c3⟩, ⟨c4, c5, c6⟩, c7, c8⟩ := isB.facts (b := 1) (Or.inl rfl)
    have hr := (c8 i hi10).2
    obtain ⟨r1, r2, r3, r4, r5, r6⟩ := hr.facts
    have hRT := hE1.2.2.2 i hi
    obtain ⟨x1, x2, x3, x4, x5⟩ := id hRT
    have hro := hV.1
    have hll := es_len B i
    have hpl := pl_le (sg_ B i)
    have hs4 := hV.2.1.1
    obtain ⟨hmo, w, hw, hvv⟩ := hV.endv hm
    refine X_iload (nx := 144) dX5_plant_142 rfl rfl ?_
    refine X_iconst (v := nI 4) (nx := 145) dX5_plant_144 rfl rfl ?_
    refine X_icmp_ge (tgt := 179) (nx := 148) dX5_plant_145 rfl rfl (fun h145 => ?_) (fun h145 => ?_)
    · exact absurd h145 (nI_ge (by omega) (by omega))
    · skip
      refine X_aload_n (nx := 149) dX5_plant_148 rfl rfl rfl ?_
      refine M_getI (nx := 152) dX5_plant_149 rfl fl_RX5_110 rfl (by first | assumption | rfl | decide | omega) (by first | assumption | rfl | decide | omega) ?_
      refine X_top (x3.trans hvv) ?_
      refine Y_Si1 (nx := 155) dX5_plant_152 rfl ml_RX5_113 kj_X7_served ks_X7_served (sp_X7_served rfl hw) (by first | decide | omega) (by exact Nat.le_of_ble_eq_true rfl) ?_
      refine X_iload (nx := 157) dX5_plant_155 rfl rfl ?_
      refine Y_Si2 (nx := 160) dX5_plant_157 rfl ml_RX5_116 kj_X7_has ks_X7_has (sp_X7_has (k := v) rfl (by have := srvm_lt w hw; omega) rfl (by omega)) (by first | decide | omega) (by exact Nat.le_of_ble_eq_true rfl) ?_
      refine X_if_eq (tgt := 173) (nx := 163) dX5_plant_160 rfl rfl (fun h160 => ?_) (fun h160 => ?_)
      · skip
        rw [b2i_f] at h160
        refine X_iinc (nx := 176) dX5_plant_173 rfl (by decide) rfl (by first | exact ii1 _ | rfl) rfl (st_s (st_s (st_s (st_s (st_0))))) ?_
        refine X_goto (tgt := 142) dX5_plant_176 rfl ?_
        first
          | (have hTs := hT.serve (v := v) (i := i) (by omega) hi10
             refine ih (v + 1) _ (by omega) (hf.tr (Fr.up (by unfold inT; omega))) (TE.congr hTs (fun _ _ _ => rfl) (fun _ _ _ => rfl) (fun _ _ _ => rfl) (fun _ _ _ => rfl) (fun y r _ => ?_) (fun _ _ q => q))
             rw [hvv, srv_n w hw]
             by_cases hy : y = v
             · subst hy; rw [h160]; simp
             · rw [show decide (y < v + 1) = decide (y < v) from decide_eq_decide.mpr (by omega), decide_eq_false hy]; simp)
          | (refine ih (v + 1) _ (by omega) hf (TE.congr hT (fun _ _ _ => rfl) (fun _ _ _ => rfl) (fun _ _ _ => rfl) (fun _ _ _ => rfl) (fun y r _ => ?_) (fun _ _ q => q))
             rw [hvv, srv_n w hw]
             by_cases hy : y = v
             · subst hy; rw [h160]; simp
             · rw [show decide (y < v + 1) = decide (y < v) from decide_eq_decide.mpr (by omega)])
      · skip
        rw [b2i_t] at h160
        refine X_aload_n (nx := 164) dX5_plant_163 rfl rfl rfl ?_
        refine M_getP (nx := 167) dX5_plant_164 rfl fl_RX5_33 rfl (by first | assumption | rfl | decide | omega) (by first | assumption | rfl | decide | omega) (by first | assumption | rfl | decide | omega) ?_
        refine X_iload (nx := 169) dX5_plant_167 rfl rfl ?_
        refine X_iload_n (nx := 170) dX5_plant_169 rfl rfl rfl ?_
        refine Y_Sv3 (nx := 173) dX5_plant_170 rfl ml_RX5_98 kj_X5_mark ks_X5_mark (sp_X5_mark (i := v) (k := i) (by decide) (by decide) rfl (by omega) rfl (by omega) (hT.2.2.2.1 v (by omega))) (by first | decide | omega) (by exact Nat.le_of_ble_eq_true rfl) ?_
        refine X_iinc (nx := 176) dX5_plant_173 rfl (by decide) rfl (by first | exact ii1 _ | rfl) rfl (st_s (st_s (st_s (st_s (st_0))))) ?_
        refine X_goto (tgt := 142) dX5_plant_176 rfl ?_
        first
          | (have hTs := hT.serve (v := v) (i := i) (by omega) hi10
             refine ih (v + 1) _ (by omega) (hf.tr (Fr.up (by unfold inT; omega))) (TE.congr hTs (fun _ _ _ => rfl) (fun _ _ _ => rfl) (fun _ _ _ => rfl) (fun _ _ _ => rfl) (fun y r _ => ?_) (fun _ _ q => q))
             rw [hvv, srv_n w hw]
             by_cases hy : y = v
             · subst hy; rw [h160]; simp
             · rw [show decide (y < v + 1) = decide (y < v) from decide_eq_decide.mpr (by omega), decide_eq_false hy]; simp)
          | (refine ih (v + 1) _ (by omega) hf (TE.congr hT (fun _ _ _ => rfl) (fun _ _ _ => rfl) (fun _ _ _ => rfl) (fun _ _ _ => rfl) (fun y r _ => ?_) (fun _ _ q => q))
             rw [hvv, srv_n w hw]
             by_cases hy : y = v
             · subst hy; rw [h160]; simp
             · rw [show decide (y < v + 1) = decide (y < v) from decide_eq_decide.mpr (by omega)])
theorem lp_plant_t {B : Bk} {nl0 : List Nd} {PS EN RS MN : Nd → Nat → Bool} {SV : Nat → Nat → Bool} {MO : Nat → Bool} {i : Nat} {D : Mem} (hE : Enc D 1 B) (hi : i < cm_ B) (ht : thN B i = true) (hV : VR B i) {j : Nat} {nl : List Nd} {D1 : Mem} (hnl : nl = adP nl0 (ro_ B i) (es_ B i) (es_ B i).length) (hf : Fr inT D D1) (hT : TE D1 B nl (PSk B PS i (es_ B i).length) EN RS MN SV MO) (hj : j < nl.length) (hq : ng nl j = (ro_ B i, es_ B i)) : X 3 138 j_X5_plant 87 [some (.ref 80), some (.int (nI i)), some (.ref (rt 1 i)), some (.int (nI j)), some (.int (nI (es_ B i).length)), none] [] (138, P0, D1) (fun x σ => ∃ D' : Mem, x = [] ∧ σ = wd D' ∧ PLT B nl0 PS EN RS MN SV MO i D D') := by
  have hly : (lay 82).2 = 43 ∧ (lay 83).2 = 43 ∧ (lay 84).2 = 43 ∧ (lay 85).2 = 43 ∧ (lay 86).2 = 43 ∧ (lay 81).2 = 301 ∧ (lay 87).2 = 10 ∧ (lay 88).2 = 4 ∧ (lay 89).2 = 3 ∧ (lay 90).2 = 3 ∧ (lay 91).2 = 3 := by decide
  have hi10 : i < 10 := by have := hE.2.2.1; omega
  have hE1 := hE.frT hf
  obtain ⟨⟨b1, b2⟩, ⟨b3, b4, b5, b6⟩, ⟨b7, b8, b9⟩, ⟨c1, c2, c3⟩, ⟨c4, c5, c6⟩, c7, c8⟩ := isB.facts (b := 1) (Or.inl rfl)
  have hr := (c8 i hi10).2
  obtain ⟨r1, r2, r3, r4, r5, r6⟩ := hr.facts
  have hRT := hE1.2.2.2 i hi
  obtain ⟨x1, x2, x3, x4, x5⟩ := id hRT
  have hro := hV.1
  have hll := es_len B i
  have hpl := pl_le (sg_ B i)
  have hs4 := hV.2.1.1
  have hn43 := hT.2.1.2.1
  obtain ⟨n1, n2, n3, n4, n5, n6⟩ := hT.2.2.1 j hj
  refine X_aload_n (nx := 88) dX5_plant_87 rfl rfl rfl ?_
  refine Y_Vi0 (nx := 91) dX5_plant_88 rfl ml_RX5_101 kj_X4_isMount kv_X4_isMount (sp_X4_isMount hr) (by first | assumption | rfl | decide | omega) (by first | assumption | rfl | decide | omega) (by decide) rfl (by first | decide | omega) (by exact Nat.le_of_ble_eq_true rfl) ?_
  refine X_if_eq (tgt := 116) (nx := 94) dX5_plant_91 rfl rfl (fun h91 => ?_) (fun h91 => ?_)
  · skip
    rw [x4, b2i_f] at h91
    have hm : mtB B i = false := h91
    refine X_aload_n (nx := 117) dX5_plant_116 rfl rfl rfl ?_
    refine Y_Vi0 (nx := 120) dX5_plant_117 rfl ml_RX5_107 kj_X4_hasRest kv_X4_hasRest (sp_X4_hasRest hr x5) (by first | assumption | rfl | decide | omega) (by first | assumption | rfl | decide | omega) (by decide) rfl (by first | decide | omega) (by exact Nat.le_of_ble_eq_true rfl) ?_
    refine X_if_eq (tgt := 130) (nx := 123) dX5_plant_120 rfl rfl (fun h120 => ?_) (fun h120 => ?_)
    · skip
      rw [b2i_f] at h120
      have hrs : rsB B i = false := h120
      refine X_aload_n (nx := 131) dX5_plant_130 rfl rfl rfl ?_
      refine M_getP (nx := 134) dX5_plant_131 rfl fl_RX5_21 rfl (by first | assumption | rfl | decide | omega) (by first | assumption | rfl | decide | omega) (by first | assumption | rfl | decide | omega) ?_
      refine X_iload_n (nx := 135) dX5_plant_134 rfl rfl rfl ?_
      refine X_iload_n (nx := 136) dX5_plant_135 rfl rfl rfl ?_
      first
        | refine Y_Sv3 (nx := 139) dX5_plant_136 rfl ml_RX5_98 kj_X5_mark ks_X5_mark (sp_X5_mark (a := 85) (i := j) (k := i) (by decide) (by decide) rfl (by omega) rfl (by omega) n4) (by decide) (by exact Nat.le_of_ble_eq_true rfl) ?_
        | refine Y_Sv3 (nx := 139) dX5_plant_136 rfl ml_RX5_98 kj_X5_mark ks_X5_mark (sp_X5_mark (a := 84) (i := j) (k := i) (by decide) (by decide) rfl (by omega) rfl (by omega) n3) (by decide) (by exact Nat.le_of_ble_eq_true rfl) ?_
      refine X_iconst (v := 0) (nx := 140) dX5_plant_139 rfl rfl ?_
      refine X_istore (i := 4) (nx := 142) dX5_plant_140 rfl (by decide) rfl (st_s (st_s (st_s (st_s (st_0))))) ?_
      first
        | exact lp_plant_v hE hi ht hV hm 4 0 _ rfl (hf.tr (Fr.up (by unfold inT; omega))) (by subst hnl; exact TE.congr (hT.markRS hj hi10) (fun _ _ _ => rfl) (fun q r _ => en_r hrs q r) (fun q r _ => rs_m hq ht hm hrs q r) (fun _ _ _ => rfl) (fun y r _ => by simp) (fun _ _ q => q))
        | exact lp_plant_v hE hi ht hV hm 4 0 _ rfl (hf.tr (Fr.up (by unfold inT; omega))) (by subst hnl; exact TE.congr (hT.markEN hj hi10) (fun _ _ _ => rfl) (fun q r _ => en_m hq ht hm hrs q r) (fun q r _ => rs_e hrs q r) (fun _ _ _ => rfl) (fun y r _ => by simp) (fun _ _ q => q))
    · skip
      rw [b2i_t] at h120
      have hrs : rsB B i = true := h120
      refine X_aload_n (nx := 124) dX5_plant_123 rfl rfl rfl ?_
      refine M_getP (nx := 127) dX5_plant_124 rfl fl_RX5_24 rfl (by first | assumption | rfl | decide | omega) (by first | assumption | rfl | decide | omega) (by first | assumption | rfl | decide | omega) ?_
      refine X_goto (tgt := 134) dX5_plant_127 rfl ?_
      refine X_iload_n (nx := 135) dX5_plant_134 rfl rfl rfl ?_
      refine X_iload_n (nx := 136) dX5_plant_135 rfl rfl rfl ?_
      first
        | refine Y_Sv3 (nx := 139) dX5_plant_136 rfl ml_RX5_98 kj_X5_mark ks_X5_mark (sp_X5_mark (a := 85) (i := j) (k := i) (by decide) (by decide) rfl (by omega) rfl (by omega) n4) (by decide) (by exact Nat.le_of_ble_eq_true rfl) ?_
        | refine Y_Sv3 (nx := 139) dX5_plant_136 rfl ml_RX5_98 kj_X5_mark ks_X5_mark (sp_X5_mark (a := 84) (i := j) (k := i) (by decide) (by decide) rfl (by omega) rfl (by omega) n3) (by decide) (by exact Nat.le_of_ble_eq_true rfl) ?_
      refine X_iconst (v := 0) (nx := 140) dX5_plant_139 rfl rfl ?_
      refine X_istore (i := 4) (nx := 142) dX5_plant_140 rfl (by decide) rfl (st_s (st_s (st_s (st_s (st_0))))) ?_
      first
        | exact lp_plant_v hE hi ht hV hm 4 0 _ rfl (hf.tr (Fr.up (by unfold inT; omega))) (by subst hnl; exact TE.congr (hT.markRS hj hi10) (fun _ _ _ => rfl) (fun q r _ => en_r hrs q r) (fun q r _ => rs_m hq ht hm hrs q r) (fun _ _ _ => rfl) (fun y r _ => by simp) (fun _ _ q => q))
        | exact lp_plant_v hE hi ht hV hm 4 0 _ rfl (hf.tr (Fr.up (by unfold inT; omega))) (by subst hnl; exact TE.congr (hT.markEN hj hi10) (fun _ _ _ => rfl) (fun q r _ => en_m hq ht hm hrs q r) (fun q r _ => rs_e hrs q r) (fun _ _ _ => rfl) (fun y r _ => by simp) (fun _ _ q => q))
  · skip
    rw [x4, b2i_t] at h91
    have hm : mtB B i = true := h91
    refine X_aload_n (nx := 95) dX5_plant_94 rfl rfl rfl ?_
    refine M_getP (nx := 98) dX5_plant_95 rfl fl_RX5_27 rfl (by first | assumption | rfl | decide | omega) (by first | assumption | rfl | decide | omega) (by first | assumption | rfl | decide | omega) ?_
    refine X_iload_n (nx := 99) dX5_plant_98 rfl rfl rfl ?_
    refine X_iload_n (nx := 100) dX5_plant_99 rfl rfl rfl ?_
    refine Y_Sv3 (nx := 103) dX5_plant_100 rfl ml_RX5_98 kj_X5_mark ks_X5_mark (sp_X5_mark (i := j) (k := i) (by decide) (by decide) rfl (by omega) rfl (by omega) n5) (by first | decide | omega) (by exact Nat.le_of_ble_eq_true rfl) ?_
    refine X_aload_n (nx := 104) dX5_plant_103 rfl rfl rfl ?_
    refine M_getP (nx := 107) dX5_plant_104 rfl fl_RX5_30 rfl (by first | assumption | rfl | decide | omega) (by first | assumption | rfl | decide | omega) (by first | assumption | rfl | decide | omega) ?_
    refine X_iload_n (nx := 108) dX5_plant_107 rfl rfl rfl ?_
    refine X_aload_n (nx := 109) dX5_plant_108 rfl rfl rfl ?_
    refine M_getI (nx := 112) dX5_plant_109 rfl fl_RX5_105 rfl (by first | assumption | rfl | decide | omega) (by first | assumption | rfl | decide | omega) ?_
    refine X_top ((up2_other (by unfold rt; omega)).trans x4) ?_
    refine Y_Sv3 (nx := 115) dX5_plant_112 rfl ml_RX5_56 kj_X7_put ks_X7_put (sp_X7_put (i := i) (by decide) (by decide) rfl (by omega)) (by first | decide | omega) (by exact Nat.le_of_ble_eq_true rfl) ?_
    exact Z_retv dX5_plant_115 rfl ⟨by subst hnl; exact TEi.ofM hT hj hq ht hm hi10, (hf.tr (Fr.up (by unfold inT; omega))).tr (Fr.up (by unfold inT; omega))⟩
theorem typ7 {x : Nat} (h : sgv x) (h4 : x ≠ 40) : typ x < 7 := by unfold sgv at h; unfold typ; split <;> omega
theorem lp_plant_s {B : Bk} {nl0 : List Nd} {PS EN RS MN : Nd → Nat → Bool} {SV : Nat → Nat → Bool} {MO : Nat → Bool} {i : Nat} {D : Mem} (hE : Enc D 1 B) (hi : i < cm_ B) (ht : thN B i = true) (hV : VR B i) (hl : nl0.length + (es_ B i).length ≤ 43) : ∀ (m : Nat) (k j : Nat) (D1 : Mem), k + m = (es_ B i).length → Fr inT D D1 → TE D1 B (adP nl0 (ro_ B i) (es_ B i) k) (PSk B PS i k) EN RS MN SV MO → j < (adP nl0 (ro_ B i) (es_ B i) k).length → ng (adP nl0 (ro_ B i) (es_ B i) k) j = (ro_ B i, (es_ B i).take k) → X 3 138 j_X5_plant 8 [some (.ref 80), some (.int (nI i)), some (.ref (rt 1 i)), some (.int (nI j)), some (.int (nI k)), none] [] (138, P0, D1) (fun x σ => ∃ D' : Mem, x = [] ∧ σ = wd D' ∧ PLT B nl0 PS EN RS MN SV MO i D D') := by
  intro m
  induction m with
  | zero =>
    intro k j D1 hk hf hT hj hq
    have hly : (lay 82).2 = 43 ∧ (lay 83).2 = 43 ∧ (lay 84).2 = 43 ∧ (lay 85).2 = 43 ∧ (lay 86).2 = 43 ∧ (lay 81).2 = 301 ∧ (lay 87).2 = 10 ∧ (lay 88).2 = 4 ∧ (lay 89).2 = 3 ∧ (lay 90).2 = 3 ∧ (lay 91).2 = 3 := by decide
    have hi10 : i < 10 := by have := hE.2.2.1; omega
    have hE1 := hE.frT hf
    obtain ⟨⟨b1, b2⟩, ⟨b3, b4, b5, b6⟩, ⟨b7, b8, b9⟩, ⟨c1, c2, c3⟩, ⟨c4, c5, c6⟩, c7, c8⟩ := isB.facts (b := 1) (Or.inl rfl)
    have hr := (c8 i hi10).2
    obtain ⟨r1, r2, r3, r4, r5, r6⟩ := hr.facts
    have hRT := hE1.2.2.2 i hi
    obtain ⟨x1, x2, x3, x4, x5⟩ := id hRT
    have hro := hV.1
    have hll := es_len B i
    have hpl := pl_le (sg_ B i)
    have hs4 := hV.2.1.1
    refine X_iload (nx := 10) dX5_plant_8 rfl rfl ?_
    refine X_aload_n (nx := 11) dX5_plant_10 rfl rfl rfl ?_
    refine M_getI (nx := 14) dX5_plant_11 rfl fl_RX5_89 rfl (by first | assumption | rfl | decide | omega) (by first | assumption | rfl | decide | omega) ?_
    refine X_top (x5.2.2.1) ?_
    refine X_icmp_ge (tgt := 87) (nx := 17) dX5_plant_14 rfl rfl (fun h14 => ?_) (fun h14 => ?_)
    · skip
      have hk0 : k = (es_ B i).length := by omega
      subst hk0
      exact lp_plant_t hE hi ht hV rfl hf hT hj (by rw [hq, List.take_length])
    · exact absurd h14 (fun q => q (nI_le (by omega) (by omega)))
  | succ m ih =>
    intro k j D1 hk hf hT hj hq
    have hly : (lay 82).2 = 43 ∧ (lay 83).2 = 43 ∧ (lay 84).2 = 43 ∧ (lay 85).2 = 43 ∧ (lay 86).2 = 43 ∧ (lay 81).2 = 301 ∧ (lay 87).2 = 10 ∧ (lay 88).2 = 4 ∧ (lay 89).2 = 3 ∧ (lay 90).2 = 3 ∧ (lay 91).2 = 3 := by decide
    have hi10 : i < 10 := by have := hE.2.2.1; omega
    have hE1 := hE.frT hf
    obtain ⟨⟨b1, b2⟩, ⟨b3, b4, b5, b6⟩, ⟨b7, b8, b9⟩, ⟨c1, c2, c3⟩, ⟨c4, c5, c6⟩, c7, c8⟩ := isB.facts (b := 1) (Or.inl rfl)
    have hr := (c8 i hi10).2
    obtain ⟨r1, r2, r3, r4, r5, r6⟩ := hr.facts
    have hRT := hE1.2.2.2 i hi
    obtain ⟨x1, x2, x3, x4, x5⟩ := id hRT
    have hro := hV.1
    have hll := es_len B i
    have hpl := pl_le (sg_ B i)
    have hs4 := hV.2.1.1
    obtain ⟨a1, a2⟩ := adP_len nl0 (ro_ B i) (es_ B i) k
    have hn43 := hT.2.1.2.1
    obtain ⟨n1, n2, n3, n4, n5, n6⟩ := hT.2.2.1 j hj
    have hseg := hV.2.1.plain (k := k) (by omega)
    have h7 := typ7 hseg.1 hseg.2
    have hq1 : (ng (adP nl0 (ro_ B i) (es_ B i) k) j).1 = ro_ B i := by rw [hq]
    have hq2 : (ng (adP nl0 (ro_ B i) (es_ B i) k) j).2 ++ [typ ((sg_ B i).getD k 0)] = (es_ B i).take (k + 1) := by rw [hq, take_s (by omega), es_get hV.2.1 (by omega)]
    refine X_iload (nx := 10) dX5_plant_8 rfl rfl ?_
    refine X_aload_n (nx := 11) dX5_plant_10 rfl rfl rfl ?_
    refine M_getI (nx := 14) dX5_plant_11 rfl fl_RX5_89 rfl (by first | assumption | rfl | decide | omega) (by first | assumption | rfl | decide | omega) ?_
    refine X_top (x5.2.2.1) ?_
    refine X_icmp_ge (tgt := 87) (nx := 17) dX5_plant_14 rfl rfl (fun h14 => ?_) (fun h14 => ?_)
    · exact absurd h14 (nI_ge (by omega) (by omega))
    · skip
      refine X_iload_n (nx := 18) dX5_plant_17 rfl rfl rfl ?_
      refine X_bipush (v := 7) (nx := 20) dX5_plant_18 rfl rfl ?_
      refine X_imul (nx := 21) dX5_plant_20 rfl ?_
      refine X_top (rfl) ?_
      refine X_aload_n (nx := 22) dX5_plant_21 rfl rfl rfl ?_
      refine X_iload (nx := 24) dX5_plant_22 rfl rfl ?_
      refine Y_Vi1 (nx := 27) dX5_plant_24 rfl ml_RX5_92 kj_X4_segmentAt kv_X4_segmentAt (sp_X4_segmentAt hr x5 rfl (by omega)) (by first | assumption | rfl | decide | omega) (by first | assumption | rfl | decide | omega) (by decide) rfl (by first | decide | omega) (by exact Nat.le_of_ble_eq_true rfl) ?_
      refine Y_Si1 (nx := 30) dX5_plant_27 rfl ml_RX5_95 kj_X5_edgeOf ks_X5_edgeOf (sp_X5_edgeOf rfl (hV.2.1.plain (by omega)).1 (hV.2.1.plain (by omega)).2) (by first | decide | omega) (by exact Nat.le_of_ble_eq_true rfl) ?_
      refine X_iadd (nx := 31) dX5_plant_30 rfl ?_
      refine X_top (mul7 _ _) ?_
      refine X_istore (i := 5) (nx := 33) dX5_plant_31 rfl (by decide) rfl (st_s (st_s (st_s (st_s (st_s (st_0)))))) ?_
      refine X_aload_n (nx := 34) dX5_plant_33 rfl rfl rfl ?_
      refine M_getP (nx := 37) dX5_plant_34 rfl fl_RX5_11 rfl (by first | assumption | rfl | decide | omega) (by first | assumption | rfl | decide | omega) (by first | assumption | rfl | decide | omega) ?_
      refine X_iload (nx := 39) dX5_plant_37 rfl rfl ?_
      refine Y_Si2 (nx := 42) dX5_plant_39 rfl ml_RX5_63 kj_X7_numberAt ks_X7_numberAt (sp_X7_numberAt (i := j * 7 + typ ((sg_ B i).getD k 0)) (by decide) (by decide) rfl (by omega)) (by first | decide | omega) (by exact Nat.le_of_ble_eq_true rfl) ?_
      refine X_top ((n6 _ h7).trans (congrArg opI (by rw [hq1, hq2]))) ?_
      refine X_if_ge (tgt := 62) (nx := 45) dX5_plant_42 rfl rfl (fun h42 => ?_) (fun h42 => ?_)
      · skip
        obtain ⟨k2, hk2⟩ := Option.isSome_iff_exists.mp (opI_ge (Int32.not_lt.mpr h42))
        have hnl2 : adP nl0 (ro_ B i) (es_ B i) (k + 1) = adP nl0 (ro_ B i) (es_ B i) k := by show adP1 _ _ = _; unfold adP1; rw [hk2]; rfl
        have hadd := hT
        rw [← hnl2] at hadd
        obtain ⟨hj2, hg2⟩ := nix_some hk2
        rw [← hnl2] at hj2 hg2
        have hf2 := hf
        have hb68 : D1 81 (j * 7 + typ ((sg_ B i).getD k 0)) = nI k2 := ((n6 _ h7).trans (congrArg opI (by rw [hq1, hq2]))).trans (by rw [hk2]; rfl)
        have hn83 := (hadd.2.2.1 k2 hj2).2.1
        have hn43b := hadd.2.1.2.1
        refine X_aload_n (nx := 63) dX5_plant_62 rfl rfl rfl ?_
        refine M_getP (nx := 66) dX5_plant_63 rfl fl_RX5_11 rfl (by first | assumption | rfl | decide | omega) (by first | assumption | rfl | decide | omega) (by first | assumption | rfl | decide | omega) ?_
        refine X_iload (nx := 68) dX5_plant_66 rfl rfl ?_
        refine Y_Si2 (nx := 71) dX5_plant_68 rfl ml_RX5_63 kj_X7_numberAt ks_X7_numberAt (sp_X7_numberAt (i := j * 7 + typ ((sg_ B i).getD k 0)) (by decide) (by decide) rfl (by omega)) (by first | decide | omega) (by exact Nat.le_of_ble_eq_true rfl) ?_
        refine X_top (hb68) ?_
        refine X_istore_n (i := 3) (nx := 72) dX5_plant_71 rfl rfl (by decide) rfl (st_s (st_s (st_s (st_0)))) ?_
        refine X_aload_n (nx := 73) dX5_plant_72 rfl rfl rfl ?_
        refine M_getP (nx := 76) dX5_plant_73 rfl fl_RX5_18 rfl (by first | assumption | rfl | decide | omega) (by first | assumption | rfl | decide | omega) (by first | assumption | rfl | decide | omega) ?_
        refine X_iload_n (nx := 77) dX5_plant_76 rfl rfl rfl ?_
        refine X_iload_n (nx := 78) dX5_plant_77 rfl rfl rfl ?_
        refine Y_Sv3 (nx := 81) dX5_plant_78 rfl ml_RX5_98 kj_X5_mark ks_X5_mark (sp_X5_mark (i := k2) (k := i) (by decide) (by decide) rfl (by omega) rfl (by omega) hn83) (by first | decide | omega) (by exact Nat.le_of_ble_eq_true rfl) ?_
        refine X_iinc (nx := 84) dX5_plant_81 rfl (by decide) rfl (by first | exact ii1 _ | rfl) rfl (st_s (st_s (st_s (st_s (st_0))))) ?_
        refine X_goto (tgt := 8) dX5_plant_84 rfl ?_
        refine X_fg5 ?_
        have hmk := hadd.markPS hj2 hi10
        refine ih (k + 1) k2 _ (by omega) (hf2.tr (Fr.up (by unfold inT; omega))) (TE.congr hmk (fun q r _ => by rw [hg2]; exact PSk_s ht (by omega) q r) (fun _ _ _ => rfl) (fun _ _ _ => rfl) (fun _ _ _ => rfl) (fun _ _ _ => rfl) (fun _ _ q => q)) hj2 hg2
      · skip
        have hnone := opI_lt (Int32.not_le.mp h42) (fun y hy => by have := (nix_some hy).1; omega)
        obtain ⟨k2, hk2⟩ : ∃ y, y = (adP nl0 (ro_ B i) (es_ B i) k).length := ⟨_, rfl⟩
        have hadd := hT.add hj h7 (by omega) (by rw [hq1, hq2]; exact hnone)
        rw [hq1, hq2] at hadd
        have hnl2 : adP nl0 (ro_ B i) (es_ B i) (k + 1) = adP nl0 (ro_ B i) (es_ B i) k ++ [(ro_ B i, (es_ B i).take (k + 1))] := by show adP1 _ _ = _; unfold adP1; rw [if_neg (by rw [hnone]; decide)]
        rw [← hnl2, ← hk2] at hadd
        have hj2 : k2 < (adP nl0 (ro_ B i) (es_ B i) (k + 1)).length := by rw [hnl2, hk2]; simp
        have hg2 : ng (adP nl0 (ro_ B i) (es_ B i) (k + 1)) k2 = (ro_ B i, (es_ B i).take (k + 1)) := by rw [hnl2, hk2]; exact ng_last
        have hf2 : Fr inT D (up2 (anD D1 k2 (ro_ B i)) 81 (j * 7 + typ ((sg_ B i).getD k 0)) (nI k2)) := fun b hb => by rw [up2_ne (fun e => hb (by unfold inT; omega))]; funext x; unfold anD; unfold inT at hb; rw [if_neg (by omega), if_neg (by omega), if_neg (by omega), if_neg (by omega)]; exact congrFun (hf b hb) x
        have hb68 : up2 (anD D1 k2 (ro_ B i)) 81 (j * 7 + typ ((sg_ B i).getD k 0)) (nI k2) 81 (j * 7 + typ ((sg_ B i).getD k 0)) = nI k2 := up2_same
        have hn83 := (hadd.2.2.1 k2 hj2).2.1
        have hn43b := hadd.2.1.2.1
        have hT1 : D1 80 11 = nI k2 := by rw [hk2]; exact hT.1
        refine X_aload_n (nx := 46) dX5_plant_45 rfl rfl rfl ?_
        refine M_getP (nx := 49) dX5_plant_46 rfl fl_RX5_11 rfl (by first | assumption | rfl | decide | omega) (by first | assumption | rfl | decide | omega) (by first | assumption | rfl | decide | omega) ?_
        refine X_iload (nx := 51) dX5_plant_49 rfl rfl ?_
        refine X_aload_n (nx := 52) dX5_plant_51 rfl rfl rfl ?_
        refine X_aload_n (nx := 53) dX5_plant_52 rfl rfl rfl ?_
        refine M_getI (nx := 56) dX5_plant_53 rfl fl_RX5_84 rfl (by first | assumption | rfl | decide | omega) (by first | assumption | rfl | decide | omega) ?_
        refine Y_Vi1 (nx := 59) dX5_plant_56 rfl ml_RX5_52 kj_X5_addNode kv_X5_addNode (sp_X5_addNode x2 (by omega) hT1) (by first | assumption | rfl | decide | omega) (by first | assumption | rfl | decide | omega) (by decide) rfl (by first | decide | omega) (by exact Nat.le_of_ble_eq_true rfl) ?_
        refine Y_Sv3 (nx := 62) dX5_plant_59 rfl ml_RX5_56 kj_X7_put ks_X7_put (sp_X7_put (i := j * 7 + typ ((sg_ B i).getD k 0)) (by decide) (by decide) rfl (by omega)) (by first | decide | omega) (by exact Nat.le_of_ble_eq_true rfl) ?_
        refine X_aload_n (nx := 63) dX5_plant_62 rfl rfl rfl ?_
        refine M_getP (nx := 66) dX5_plant_63 rfl fl_RX5_11 rfl (by first | assumption | rfl | decide | omega) (by first | assumption | rfl | decide | omega) (by first | assumption | rfl | decide | omega) ?_
        refine X_iload (nx := 68) dX5_plant_66 rfl rfl ?_
        refine Y_Si2 (nx := 71) dX5_plant_68 rfl ml_RX5_63 kj_X7_numberAt ks_X7_numberAt (sp_X7_numberAt (i := j * 7 + typ ((sg_ B i).getD k 0)) (by decide) (by decide) rfl (by omega)) (by first | decide | omega) (by exact Nat.le_of_ble_eq_true rfl) ?_
        refine X_top (hb68) ?_
        refine X_istore_n (i := 3) (nx := 72) dX5_plant_71 rfl rfl (by decide) rfl (st_s (st_s (st_s (st_0)))) ?_
        refine X_aload_n (nx := 73) dX5_plant_72 rfl rfl rfl ?_
        refine M_getP (nx := 76) dX5_plant_73 rfl fl_RX5_18 rfl (by first | assumption | rfl | decide | omega) (by first | assumption | rfl | decide | omega) (by first | assumption | rfl | decide | omega) ?_
        refine X_iload_n (nx := 77) dX5_plant_76 rfl rfl rfl ?_
        refine X_iload_n (nx := 78) dX5_plant_77 rfl rfl rfl ?_
        refine Y_Sv3 (nx := 81) dX5_plant_78 rfl ml_RX5_98 kj_X5_mark ks_X5_mark (sp_X5_mark (i := k2) (k := i) (by decide) (by decide) rfl (by omega) rfl (by omega) hn83) (by first | decide | omega) (by exact Nat.le_of_ble_eq_true rfl) ?_
        refine X_iinc (nx := 84) dX5_plant_81 rfl (by decide) rfl (by first | exact ii1 _ | rfl) rfl (st_s (st_s (st_s (st_s (st_0))))) ?_
        refine X_goto (tgt := 8) dX5_plant_84 rfl ?_
        refine X_fg5 ?_
        have hmk := hadd.markPS hj2 hi10
        refine ih (k + 1) k2 _ (by omega) (hf2.tr (Fr.up (by unfold inT; omega))) (TE.congr hmk (fun q r _ => by rw [hg2]; exact PSk_s ht (by omega) q r) (fun _ _ _ => rfl) (fun _ _ _ => rfl) (fun _ _ _ => rfl) (fun _ _ _ => rfl) (fun _ _ q => q)) hj2 hg2
