/-! CONSTRUCTORS: the class itself -/
theorem dX7_init_0 : decode cX7_init 0 = .ok (.aload_n 0, 1) := by decide +kernel
theorem dX7_init_1 : decode cX7_init 1 = .ok (.invokespecial 1, 3) := by decide +kernel
theorem dX7_init_4 : decode cX7_init 4 = .ok (.aload_n 0, 1) := by decide +kernel
theorem dX7_init_5 : decode cX7_init 5 = .ok (.new 7, 3) := by decide +kernel
theorem dX7_init_8 : decode cX7_init 8 = .ok (.dup, 1) := by decide +kernel
theorem dX7_init_9 : decode cX7_init 9 = .ok (.invokespecial 9, 3) := by decide +kernel
theorem dX7_init_12 : decode cX7_init 12 = .ok (.putfield 10, 3) := by decide +kernel
theorem dX7_init_15 : decode cX7_init 15 = .ok (.aload_n 0, 1) := by decide +kernel
theorem dX7_init_16 : decode cX7_init 16 = .ok (.new 7, 3) := by decide +kernel
theorem dX7_init_19 : decode cX7_init 19 = .ok (.dup, 1) := by decide +kernel
theorem dX7_init_20 : decode cX7_init 20 = .ok (.invokespecial 9, 3) := by decide +kernel
theorem dX7_init_23 : decode cX7_init 23 = .ok (.putfield 16, 3) := by decide +kernel
theorem dX7_init_26 : decode cX7_init 26 = .ok (.aload_n 0, 1) := by decide +kernel
theorem dX7_init_27 : decode cX7_init 27 = .ok (.new 7, 3) := by decide +kernel
theorem dX7_init_30 : decode cX7_init 30 = .ok (.dup, 1) := by decide +kernel
theorem dX7_init_31 : decode cX7_init 31 = .ok (.invokespecial 9, 3) := by decide +kernel
theorem dX7_init_34 : decode cX7_init 34 = .ok (.putfield 19, 3) := by decide +kernel
theorem dX7_init_37 : decode cX7_init 37 = .ok (.aload_n 0, 1) := by decide +kernel
theorem dX7_init_38 : decode cX7_init 38 = .ok (.new 22, 3) := by decide +kernel
theorem dX7_init_41 : decode cX7_init 41 = .ok (.dup, 1) := by decide +kernel
theorem dX7_init_42 : decode cX7_init 42 = .ok (.invokespecial 24, 3) := by decide +kernel
theorem dX7_init_45 : decode cX7_init 45 = .ok (.putfield 25, 3) := by decide +kernel
theorem dX7_init_48 : decode cX7_init 48 = .ok (.aload_n 0, 1) := by decide +kernel
theorem dX7_init_49 : decode cX7_init 49 = .ok (.new 29, 3) := by decide +kernel
theorem dX7_init_52 : decode cX7_init 52 = .ok (.dup, 1) := by decide +kernel
theorem dX7_init_53 : decode cX7_init 53 = .ok (.bipush 96, 2) := by decide +kernel
theorem dX7_init_55 : decode cX7_init 55 = .ok (.invokespecial 31, 3) := by decide +kernel
theorem dX7_init_58 : decode cX7_init 58 = .ok (.putfield 34, 3) := by decide +kernel
theorem dX7_init_61 : decode cX7_init 61 = .ok (.aload_n 0, 1) := by decide +kernel
theorem dX7_init_62 : decode cX7_init 62 = .ok (.new 29, 3) := by decide +kernel
theorem dX7_init_65 : decode cX7_init 65 = .ok (.dup, 1) := by decide +kernel
theorem dX7_init_66 : decode cX7_init 66 = .ok (.bipush 30, 2) := by decide +kernel
theorem dX7_init_68 : decode cX7_init 68 = .ok (.invokespecial 31, 3) := by decide +kernel
theorem dX7_init_71 : decode cX7_init 71 = .ok (.putfield 38, 3) := by decide +kernel
theorem dX7_init_74 : decode cX7_init 74 = .ok (.aload_n 0, 1) := by decide +kernel
theorem dX7_init_75 : decode cX7_init 75 = .ok (.new 29, 3) := by decide +kernel
theorem dX7_init_78 : decode cX7_init 78 = .ok (.dup, 1) := by decide +kernel
theorem dX7_init_79 : decode cX7_init 79 = .ok (.iconst 4, 1) := by decide +kernel
theorem dX7_init_80 : decode cX7_init 80 = .ok (.invokespecial 31, 3) := by decide +kernel
theorem dX7_init_83 : decode cX7_init 83 = .ok (.putfield 41, 3) := by decide +kernel
theorem dX7_init_86 : decode cX7_init 86 = .ok (.aload_n 0, 1) := by decide +kernel
theorem dX7_init_87 : decode cX7_init 87 = .ok (.iconst 4, 1) := by decide +kernel
theorem dX7_init_88 : decode cX7_init 88 = .ok (.newarray .int, 2) := by decide +kernel
theorem dX7_init_90 : decode cX7_init 90 = .ok (.putfield 44, 3) := by decide +kernel
theorem dX7_init_93 : decode cX7_init 93 = .ok (.aload_n 0, 1) := by decide +kernel
theorem dX7_init_94 : decode cX7_init 94 = .ok (.bipush 7, 2) := by decide +kernel
theorem dX7_init_96 : decode cX7_init 96 = .ok (.newarray .int, 2) := by decide +kernel
theorem dX7_init_98 : decode cX7_init 98 = .ok (.putfield 48, 3) := by decide +kernel
theorem dX7_init_101 : decode cX7_init 101 = .ok (.return_, 1) := by decide +kernel
theorem sp_X7_init {σ : Wd} (h : NEWC 0 σ) : E 6 104 j_X7_init [.ref 0] σ (fun vs σ' => vs = [] ∧ CON IM P0 0 104 σ σ') := by
  refine E.start 0 (ls := [some (.ref 0)]) (by decide +kernel) (Nat.le_of_ble_eq_true rfl) rfl (by rw [h.1]; omega) (by omega) ?_
  have h0 := h.pg (I := IM) (Tp := P0)
  refine X_aload_n (nx := 1) dX7_init_0 rfl rfl rfl ?_
  refine X_objInit (nx := 4) dX7_init_1 rfl ml_RX7_1 oi_1 oi_2 (by decide) (by decide) ?_
  refine X_aload_n (nx := 5) dX7_init_4 rfl rfl rfl ?_
  refine C_obj (m := 27) (d' := 3) h0 dX7_init_5 rfl dX7_init_8 rfl dX7_init_9 rfl dX7_init_12 rfl cf_X0 cl_RX7_7 in_RX0 rfl (by omega) ml_RX7_9 kj_X0_init ki_X0_init rfl rfl (fun τ hτ => sp_X0_init_1 hτ) (by decide) (by omega) (by omega) cf_X7 (by decide) (bg_in 233 (by decide +kernel) rfl) rfl rfl (by decide) rfl rfl (ok_r (by omega) (fun v hv => absurd hv List.not_mem_nil)) (by omega) (fun σ1 h1 => ?_)
  refine X_aload_n (nx := 16) dX7_init_15 rfl rfl rfl ?_
  refine C_obj (m := 53) (d' := 3) h1 dX7_init_16 rfl dX7_init_19 rfl dX7_init_20 rfl dX7_init_23 rfl cf_X0 cl_RX7_7 in_RX0 rfl (by omega) ml_RX7_9 kj_X0_init ki_X0_init rfl rfl (fun τ hτ => sp_X0_init_27 hτ) (by decide) (by omega) (by omega) cf_X7 (by decide) (bg_in 234 (by decide +kernel) rfl) rfl rfl (by decide) rfl rfl (ok_r (by omega) (fun v hv => absurd hv List.not_mem_nil)) (by omega) (fun σ2 h2 => ?_)
  refine X_aload_n (nx := 27) dX7_init_26 rfl rfl rfl ?_
  refine C_obj (m := 79) (d' := 3) h2 dX7_init_27 rfl dX7_init_30 rfl dX7_init_31 rfl dX7_init_34 rfl cf_X0 cl_RX7_7 in_RX0 rfl (by omega) ml_RX7_9 kj_X0_init ki_X0_init rfl rfl (fun τ hτ => sp_X0_init_53 hτ) (by decide) (by omega) (by omega) cf_X7 (by decide) (bg_in 235 (by decide +kernel) rfl) rfl rfl (by decide) rfl rfl (ok_r (by omega) (fun v hv => absurd hv List.not_mem_nil)) (by omega) (fun σ3 h3 => ?_)
  refine X_aload_n (nx := 38) dX7_init_37 rfl rfl rfl ?_
  refine C_obj (m := 96) (d' := 5) h3 dX7_init_38 rfl dX7_init_41 rfl dX7_init_42 rfl dX7_init_45 rfl cf_X6 cl_RX7_22 in_RX6 rfl (by omega) ml_RX7_24 kj_X6_init ki_X6_init rfl rfl (fun τ hτ => sp_X6_init hτ) (by decide) (by omega) (by omega) cf_X7 (by decide) (bg_in 236 (by decide +kernel) rfl) rfl rfl (by decide) rfl rfl (ok_r (by omega) (fun v hv => absurd hv List.not_mem_nil)) (by omega) (fun σ4 h4 => ?_)
  refine X_aload_n (nx := 49) dX7_init_48 rfl rfl rfl ?_
  refine C_obj1 (v := nI 96) (m := 98) (d' := 2) h4 dX7_init_49 rfl dX7_init_52 rfl dX7_init_53 rfl rfl dX7_init_55 rfl dX7_init_58 rfl cf_X2 cl_RX7_29 in_RX2 rfl (by omega) ml_RX7_31 kj_X2_init ki_X2_init rfl rfl (fun τ hτ => sp_X2_init (L := 96) rfl rfl (by decide) (by decide) rfl (gd_none (l := ptT.getD 96 []) rfl) (p0_nil rfl) (im_0 (by decide)) (im_0 (by decide)) (by decide) hτ) (by decide) (by omega) (by omega) cf_X7 (by decide) (bg_in 237 (by decide +kernel) rfl) rfl rfl (by decide) rfl rfl (ok_r (by omega) (fun v hv => absurd hv List.not_mem_nil)) (by omega) (fun σ5 h5 => ?_)
  refine X_aload_n (nx := 62) dX7_init_61 rfl rfl rfl ?_
  refine C_obj1 (v := nI 30) (m := 100) (d' := 2) h5 dX7_init_62 rfl dX7_init_65 rfl dX7_init_66 rfl rfl dX7_init_68 rfl dX7_init_71 rfl cf_X2 cl_RX7_29 in_RX2 rfl (by omega) ml_RX7_31 kj_X2_init ki_X2_init rfl rfl (fun τ hτ => sp_X2_init (L := 30) rfl rfl (by decide) (by decide) rfl (gd_none (l := ptT.getD 98 []) rfl) (p0_nil rfl) (im_0 (by decide)) (im_0 (by decide)) (by decide) hτ) (by decide) (by omega) (by omega) cf_X7 (by decide) (bg_in 238 (by decide +kernel) rfl) rfl rfl (by decide) rfl rfl (ok_r (by omega) (fun v hv => absurd hv List.not_mem_nil)) (by omega) (fun σ6 h6 => ?_)
  refine X_aload_n (nx := 75) dX7_init_74 rfl rfl rfl ?_
  refine C_obj2 (v := nI 4) (m := 102) (d' := 2) h6 dX7_init_75 rfl dX7_init_78 rfl dX7_init_79 rfl rfl dX7_init_80 rfl dX7_init_83 rfl cf_X2 cl_RX7_29 in_RX2 rfl (by omega) ml_RX7_31 kj_X2_init ki_X2_init rfl rfl (fun τ hτ => sp_X2_init (L := 4) rfl rfl (by decide) (by decide) rfl (gd_none (l := ptT.getD 100 []) rfl) (p0_nil rfl) (im_0 (by decide)) (im_0 (by decide)) (by decide) hτ) (by decide) (by omega) (by omega) cf_X7 (by decide) (bg_in 239 (by decide +kernel) rfl) rfl rfl (by decide) rfl rfl (ok_r (by omega) (fun v hv => absurd hv List.not_mem_nil)) (by omega) (fun σ7 h7 => ?_)
  refine X_aload_n (nx := 87) dX7_init_86 rfl rfl rfl ?_
  refine X_iconst (v := 4) (nx := 88) dX7_init_87 rfl rfl ?_
  refine C_arr (L := 4) h7 dX7_init_88 rfl dX7_init_90 rfl (by decide) (by decide) rfl (by decide) (by omega) cf_X7 (by decide) (bg_in 240 (by decide +kernel) rfl) rfl rfl (by decide) rfl rfl (p0_nil rfl) (im_0 (by decide)) (ok_r (by omega) (fun v hv => absurd hv List.not_mem_nil)) (by omega) (fun σ8 h8 => ?_)
  refine X_aload_n (nx := 94) dX7_init_93 rfl rfl rfl ?_
  refine X_bipush (v := 7) (nx := 96) dX7_init_94 rfl rfl ?_
  refine C_arr (L := 7) h8 dX7_init_96 rfl dX7_init_98 rfl (by decide) (by decide) rfl (by decide) (by omega) cf_X7 (by decide) (bg_in 241 (by decide +kernel) rfl) rfl rfl (by decide) rfl rfl (p0_nil rfl) (im_0 (by decide)) (ok_r (by omega) (fun v hv => absurd hv List.not_mem_nil)) (by omega) (fun σ9 h9 => ?_)
  exact X_ret ⟨rfl, dX7_init_101⟩ h9.1 ⟨rfl, h9.con (by omega) (gd_none (l := ptT.getD 0 []) rfl) (im_0 (by decide))⟩
