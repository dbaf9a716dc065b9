abbrev mX11_init : zM := (yX11_init, cX11_init, 1, none, { frames := 4, cells := 112, slots := 688, locals := 72 })
set_option maxRecDepth 100000 in
set_option maxHeartbeats 4000000 in
theorem c_X11_init (l : Launch) (B : zB) : zMet l B mX11_init 112 688 1 (va_up (zg B z0 zt1) 0 (.inr (11, [.null, .null, .null, .null, .null, .null, .null, .long 0, .long 0, .int 0, .int 0, .int 0]))) [.ref (B.1 + 0)] (zRi (zg B z0 zt1)) := by
  refine z_met (by decide) (Nat.le_of_ble_eq_true rfl) ?_
  intro X hl C E hnm
  show Z X B mX11_init 1 (va_up (zg B z0 zt1) 0 (.inr (11, [.null, .null, .null, .null, .null, .null, .null, .long 0, .long 0, .int 0, .int 0, .int 0]))) 0 0 0 [(0, .ref (B.1 + 0))] []
  refine z_aload_n C dX11_init_0 0 rfl rfl ?_
  refine z_obj C tw_25 (Nat.le_of_ble_eq_true rfl) (Nat.le_of_ble_eq_true rfl) dX11_init_1 ?_
  refine z_aload_n C dX11_init_4 0 rfl rfl ?_
  refine z_bipush C dX11_init_5 kb_6 ?_
  refine z_GG (G2 := (va_up (va_up (zg B z0 zt1) 0 (.inr (11, [.null, .null, .null, .null, .null, .null, .null, .long 0, .long 0, .int 0, .int 0, .int 0]))) 1 (.inl (B.2.2.1 6, 6, .inr (.inr (.inr (.inr (fun _ => none)))))))) (fun k hk => (va_up_ne _ _ (Nat.ne_of_lt hk)).symm) ?_
  refine z_anew C 6 (Cn := RX5) tw_28 (by decide) rfl (by decide) (N' := 6) (by decide) (by decide) rfl (Nat.le_of_ble_eq_true rfl) (Nat.le_of_ble_eq_true rfl) dX11_init_7 (n2 := 2) (a2 := 1) (w2 := 6) rfl rfl rfl ?_
  refine z_G (G2 := (va_up (va_up (zg B z0 zt1) 0 (.inr (11, [.null, .null, .null, .null, .null, .null, .null, .long 0, .long 0, .int 0, .int 0, .int 0]))) 1 (.inl (B.2.2.1 6, 6, .inr (.inr (.inr (.inr (zq B (fun j => 1 + 1 + j) 0)))))))) (by rw [← zq_0]) ?_
  refine z_dup C dX11_init_10 rfl ?_
  refine z_iconst C dX11_init_11 ki_0 ?_
  refine z_new C (ci := 5) (fs := []) tyX5 tyX5_ok zc_5 tw_28 tw_30 tw_2 rfl (by decide) rfl (Nat.le_of_ble_eq_true rfl) (Nat.le_of_ble_eq_true rfl) dX11_init_12 (n2 := 3) (a2 := 2) (w2 := 6) rfl rfl rfl ?_
  refine z_dup C dX11_init_15 rfl ?_
  refine z_callIN C hl (o := 2) (c_X5_init l B 3 (va_up (va_up (zg B z0 zt1) 0 (.inr (11, [.null, .null, .null, .null, .null, .null, .null, .long 0, .long 0, .int 0, .int 0, .int 0]))) 1 (.inl (B.2.2.1 6, 6, .inr (.inr (.inr (.inr (zq B (fun j => 1 + 1 + j) 0))))))) 2) (zCN (nA := 0) C rfl rfl tw_33 tw_2 (by decide +kernel) (by decide +kernel) ⟨Nat.le_of_ble_eq_true rfl, Nat.le_of_ble_eq_true rfl⟩) rfl tw_32 (Nat.le_of_ble_eq_true rfl) dX11_init_16 ⟨Nat.le_of_ble_eq_true rfl, Nat.le_of_ble_eq_true rfl⟩ (n2 := 3) (a2 := 2) (w2 := 6) rfl rfl rfl ?_
  refine z_aast C 6 (o := 1) (v := 2) (by decide) rfl rfl (by decide) rfl rfl (by unfold vp_in; decide) dX11_init_19 ?_
  refine z_G (G2 := (va_up (va_up (zg B z0 zt1) 0 (.inr (11, [.null, .null, .null, .null, .null, .null, .null, .long 0, .long 0, .int 0, .int 0, .int 0]))) 1 (.inl (B.2.2.1 6, 6, .inr (.inr (.inr (.inr (zq B (fun j => 1 + 1 + j) 1)))))))) ((va_upA _ _ _ _).trans (by rw [show va_up (zq B (fun j => 1 + 1 + j) 0) (Int32.toNatClampNeg 0) (some (B.1 + 2)) = zq B (fun j => 1 + 1 + j) 1 from zq_s B (fun j => 1 + 1 + j) 0])) ?_
  refine z_dup C dX11_init_20 rfl ?_
  refine z_iconst C dX11_init_21 ki_1 ?_
  refine z_new C (ci := 7) (fs := []) tyX7 tyX7_ok zc_7 tw_36 tw_37 tw_3 rfl (by decide) rfl (Nat.le_of_ble_eq_true rfl) (Nat.le_of_ble_eq_true rfl) dX11_init_22 (n2 := 4) (a2 := 3) (w2 := 6) rfl rfl rfl ?_
  refine z_dup C dX11_init_25 rfl ?_
  refine z_callIN C hl (o := 3) (c_X7_init l B 4 (va_up (va_up (zg B z0 zt1) 0 (.inr (11, [.null, .null, .null, .null, .null, .null, .null, .long 0, .long 0, .int 0, .int 0, .int 0]))) 1 (.inl (B.2.2.1 6, 6, .inr (.inr (.inr (.inr (zq B (fun j => 1 + 1 + j) 1))))))) 3) (zCN (nA := 0) C rfl rfl tw_40 tw_3 (by decide +kernel) (by decide +kernel) ⟨Nat.le_of_ble_eq_true rfl, Nat.le_of_ble_eq_true rfl⟩) rfl tw_39 (Nat.le_of_ble_eq_true rfl) dX11_init_26 ⟨Nat.le_of_ble_eq_true rfl, Nat.le_of_ble_eq_true rfl⟩ (n2 := 4) (a2 := 3) (w2 := 6) rfl rfl rfl ?_
  refine z_aastO C 6 (o := 1) (v := 3) (by decide) rfl rfl (by decide) (by decide) rfl rfl (by unfold vp_in; decide) dX11_init_29 ?_
  refine z_G (G2 := (va_up (va_up (zg B z0 zt1) 0 (.inr (11, [.null, .null, .null, .null, .null, .null, .null, .long 0, .long 0, .int 0, .int 0, .int 0]))) 1 (.inl (B.2.2.1 6, 6, .inr (.inr (.inr (.inr (zq B (fun j => 1 + 1 + j) 2)))))))) ((va_upA _ _ _ _).trans (by rw [show va_up (zq B (fun j => 1 + 1 + j) 1) (Int32.toNatClampNeg 1) (some (B.1 + 3)) = zq B (fun j => 1 + 1 + j) 2 from zq_s B (fun j => 1 + 1 + j) 1])) ?_
  refine z_dup C dX11_init_30 rfl ?_
  refine z_iconst C dX11_init_31 ki_2 ?_
  refine z_new C (ci := 10) (fs := []) tyX10 tyX10_ok zc_10 tw_43 tw_44 tw_4 rfl (by decide) rfl (Nat.le_of_ble_eq_true rfl) (Nat.le_of_ble_eq_true rfl) dX11_init_32 (n2 := 5) (a2 := 4) (w2 := 6) rfl rfl rfl ?_
  refine z_dup C dX11_init_35 rfl ?_
  refine z_callIN C hl (o := 4) (c_X10_init l B 5 (va_up (va_up (zg B z0 zt1) 0 (.inr (11, [.null, .null, .null, .null, .null, .null, .null, .long 0, .long 0, .int 0, .int 0, .int 0]))) 1 (.inl (B.2.2.1 6, 6, .inr (.inr (.inr (.inr (zq B (fun j => 1 + 1 + j) 2))))))) 4) (zCN (nA := 0) C rfl rfl tw_47 tw_4 (by decide +kernel) (by decide +kernel) ⟨Nat.le_of_ble_eq_true rfl, Nat.le_of_ble_eq_true rfl⟩) rfl tw_46 (Nat.le_of_ble_eq_true rfl) dX11_init_36 ⟨Nat.le_of_ble_eq_true rfl, Nat.le_of_ble_eq_true rfl⟩ (n2 := 5) (a2 := 4) (w2 := 6) rfl rfl rfl ?_
  refine z_aastO C 6 (o := 1) (v := 4) (by decide) rfl rfl (by decide) (by decide) rfl rfl (by unfold vp_in; decide) dX11_init_39 ?_
  refine z_G (G2 := (va_up (va_up (zg B z0 zt1) 0 (.inr (11, [.null, .null, .null, .null, .null, .null, .null, .long 0, .long 0, .int 0, .int 0, .int 0]))) 1 (.inl (B.2.2.1 6, 6, .inr (.inr (.inr (.inr (zq B (fun j => 1 + 1 + j) 3)))))))) ((va_upA _ _ _ _).trans (by rw [show va_up (zq B (fun j => 1 + 1 + j) 2) (Int32.toNatClampNeg 2) (some (B.1 + 4)) = zq B (fun j => 1 + 1 + j) 3 from zq_s B (fun j => 1 + 1 + j) 2])) ?_
  refine z_dup C dX11_init_40 rfl ?_
  refine z_iconst C dX11_init_41 ki_3 ?_
  refine z_new C (ci := 6) (fs := []) tyX6 tyX6_ok zc_6 tw_50 tw_51 tw_5 rfl (by decide) rfl (Nat.le_of_ble_eq_true rfl) (Nat.le_of_ble_eq_true rfl) dX11_init_42 (n2 := 6) (a2 := 5) (w2 := 6) rfl rfl rfl ?_
  refine z_dup C dX11_init_45 rfl ?_
  refine z_callIN C hl (o := 5) (c_X6_init l B 6 (va_up (va_up (zg B z0 zt1) 0 (.inr (11, [.null, .null, .null, .null, .null, .null, .null, .long 0, .long 0, .int 0, .int 0, .int 0]))) 1 (.inl (B.2.2.1 6, 6, .inr (.inr (.inr (.inr (zq B (fun j => 1 + 1 + j) 3))))))) 5) (zCN (nA := 0) C rfl rfl tw_54 tw_5 (by decide +kernel) (by decide +kernel) ⟨Nat.le_of_ble_eq_true rfl, Nat.le_of_ble_eq_true rfl⟩) rfl tw_53 (Nat.le_of_ble_eq_true rfl) dX11_init_46 ⟨Nat.le_of_ble_eq_true rfl, Nat.le_of_ble_eq_true rfl⟩ (n2 := 6) (a2 := 5) (w2 := 6) rfl rfl rfl ?_
  refine z_aastO C 6 (o := 1) (v := 5) (by decide) rfl rfl (by decide) (by decide) rfl rfl (by unfold vp_in; decide) dX11_init_49 ?_
  refine z_G (G2 := (va_up (va_up (zg B z0 zt1) 0 (.inr (11, [.null, .null, .null, .null, .null, .null, .null, .long 0, .long 0, .int 0, .int 0, .int 0]))) 1 (.inl (B.2.2.1 6, 6, .inr (.inr (.inr (.inr (zq B (fun j => 1 + 1 + j) 4)))))))) ((va_upA _ _ _ _).trans (by rw [show va_up (zq B (fun j => 1 + 1 + j) 3) (Int32.toNatClampNeg 3) (some (B.1 + 5)) = zq B (fun j => 1 + 1 + j) 4 from zq_s B (fun j => 1 + 1 + j) 3])) ?_
  refine z_dup C dX11_init_50 rfl ?_
  refine z_iconst C dX11_init_51 ki_4 ?_
  refine z_new C (ci := 3) (fs := []) tyX3 tyX3_ok zc_3 tw_57 tw_58 tw_6 rfl (by decide) rfl (Nat.le_of_ble_eq_true rfl) (Nat.le_of_ble_eq_true rfl) dX11_init_52 (n2 := 7) (a2 := 6) (w2 := 6) rfl rfl rfl ?_
  refine z_dup C dX11_init_55 rfl ?_
  refine z_callIN C hl (o := 6) (c_X3_init l B 7 (va_up (va_up (zg B z0 zt1) 0 (.inr (11, [.null, .null, .null, .null, .null, .null, .null, .long 0, .long 0, .int 0, .int 0, .int 0]))) 1 (.inl (B.2.2.1 6, 6, .inr (.inr (.inr (.inr (zq B (fun j => 1 + 1 + j) 4))))))) 6) (zCN (nA := 0) C rfl rfl tw_61 tw_6 (by decide +kernel) (by decide +kernel) ⟨Nat.le_of_ble_eq_true rfl, Nat.le_of_ble_eq_true rfl⟩) rfl tw_60 (Nat.le_of_ble_eq_true rfl) dX11_init_56 ⟨Nat.le_of_ble_eq_true rfl, Nat.le_of_ble_eq_true rfl⟩ (n2 := 7) (a2 := 6) (w2 := 6) rfl rfl rfl ?_
  refine z_aastO C 6 (o := 1) (v := 6) (by decide) rfl rfl (by decide) (by decide) rfl rfl (by unfold vp_in; decide) dX11_init_59 ?_
  refine z_G (G2 := (va_up (va_up (zg B z0 zt1) 0 (.inr (11, [.null, .null, .null, .null, .null, .null, .null, .long 0, .long 0, .int 0, .int 0, .int 0]))) 1 (.inl (B.2.2.1 6, 6, .inr (.inr (.inr (.inr (zq B (fun j => 1 + 1 + j) 5)))))))) ((va_upA _ _ _ _).trans (by rw [show va_up (zq B (fun j => 1 + 1 + j) 4) (Int32.toNatClampNeg 4) (some (B.1 + 6)) = zq B (fun j => 1 + 1 + j) 5 from zq_s B (fun j => 1 + 1 + j) 4])) ?_
  refine z_dup C dX11_init_60 rfl ?_
  refine z_iconst C dX11_init_61 ki_5 ?_
  refine z_new C (ci := 2) (fs := []) tyX2 tyX2_ok zc_2 tw_64 tw_65 tw_7 rfl (by decide) rfl (Nat.le_of_ble_eq_true rfl) (Nat.le_of_ble_eq_true rfl) dX11_init_62 (n2 := 8) (a2 := 7) (w2 := 6) rfl rfl rfl ?_
  refine z_dup C dX11_init_65 rfl ?_
  refine z_callIN C hl (o := 7) (c_X2_init l B 8 (va_up (va_up (zg B z0 zt1) 0 (.inr (11, [.null, .null, .null, .null, .null, .null, .null, .long 0, .long 0, .int 0, .int 0, .int 0]))) 1 (.inl (B.2.2.1 6, 6, .inr (.inr (.inr (.inr (zq B (fun j => 1 + 1 + j) 5))))))) 7) (zCN (nA := 0) C rfl rfl tw_68 tw_7 (by decide +kernel) (by decide +kernel) ⟨Nat.le_of_ble_eq_true rfl, Nat.le_of_ble_eq_true rfl⟩) rfl tw_67 (Nat.le_of_ble_eq_true rfl) dX11_init_66 ⟨Nat.le_of_ble_eq_true rfl, Nat.le_of_ble_eq_true rfl⟩ (n2 := 8) (a2 := 7) (w2 := 6) rfl rfl rfl ?_
  refine z_aastO C 6 (o := 1) (v := 7) (by decide) rfl rfl (by decide) (by decide) rfl rfl (by unfold vp_in; decide) dX11_init_69 ?_
  refine z_G (G2 := (va_up (va_up (zg B z0 zt1) 0 (.inr (11, [.null, .null, .null, .null, .null, .null, .null, .long 0, .long 0, .int 0, .int 0, .int 0]))) 1 (.inl (B.2.2.1 6, 6, .inr (.inr (.inr (.inr (zq B (fun j => 1 + 1 + j) 6)))))))) ((va_upA _ _ _ _).trans (by rw [show va_up (zq B (fun j => 1 + 1 + j) 5) (Int32.toNatClampNeg 5) (some (B.1 + 7)) = zq B (fun j => 1 + 1 + j) 6 from zq_s B (fun j => 1 + 1 + j) 5])) ?_
  refine z_fill ?_
  refine z_G (G2 := (va_up (zg B z0 zt1) 0 (.inr (11, [.null, .null, .null, .null, .null, .null, .null, .long 0, .long 0, .int 0, .int 0, .int 0])))) (va_upI _ _ _ rfl) ?_
  refine z_putF C hnm (ci := 11) (o := 0) (j := 0) (fs := [.null, .null, .null, .null, .null, .null, .null, .long 0, .long 0, .int 0, .int 0, .int 0]) (ty := tyX11 0) tyX11 tyX11_ok nmX11 zc_11 rfl (by decide) tw_225 rfl rfl rfl (by decide +kernel) rfl rfl (by decide) rfl (Nat.le_of_ble_eq_true rfl) dX11_init_70 ?_
  refine z_G (G2 := (va_up (zg B z0 zt1) 0 (.inr (11, [.ref (B.1 + 1), .null, .null, .null, .null, .null, .null, .long 0, .long 0, .int 0, .int 0, .int 0])))) (va_upA _ _ _ _) ?_
  refine z_aload_n C dX11_init_73 0 rfl rfl ?_
  refine z_GG (G2 := (va_up (va_up (zg B z0 zt1) 0 (.inr (11, [.ref (B.1 + 1), .null, .null, .null, .null, .null, .null, .long 0, .long 0, .int 0, .int 0, .int 0]))) 8 (.inr (1, [.null, .null, .null, .null, .int 0, .int 0, .int 0])))) (fun k hk => (va_up_ne _ _ (Nat.ne_of_lt hk)).symm) ?_
  refine z_new C (ci := 1) (fs := [.null, .null, .null, .null, .int 0, .int 0, .int 0]) tyX1 tyX1_ok zc_1 tw_71 tw_72 tw_8 rfl (by decide) rfl (Nat.le_of_ble_eq_true rfl) (Nat.le_of_ble_eq_true rfl) dX11_init_74 (n2 := 9) (a2 := 8) (w2 := 13) rfl rfl rfl ?_
  refine z_dup C dX11_init_77 rfl ?_
  refine z_callI C hl (o := 8) (c_X1_init_8 l B (va_up (zg B z0 zt1) 0 (.inr (11, [.ref (B.1 + 1), .null, .null, .null, .null, .null, .null, .long 0, .long 0, .int 0, .int 0, .int 0]))) (fun k h1 h2 => ((va_up_ne _ _ (by omega))))) (zCB (nA := 0) C rfl rfl tw_75 tw_8 tw_73 (by decide +kernel) ⟨Nat.le_of_ble_eq_true rfl, Nat.le_of_ble_eq_true rfl⟩) rfl tw_74 (Nat.le_of_ble_eq_true rfl) dX11_init_78 ⟨Nat.le_of_ble_eq_true rfl, Nat.le_of_ble_eq_true rfl⟩ (n2 := 33) (a2 := 32) (w2 := 135) rfl rfl rfl ?_
  refine z_putF C hnm (ci := 11) (o := 0) (j := 1) (fs := [.ref (B.1 + 1), .null, .null, .null, .null, .null, .null, .long 0, .long 0, .int 0, .int 0, .int 0]) (ty := tyX11 1) tyX11 tyX11_ok nmX11 zc_11 rfl (by decide) tw_226 rfl rfl rfl (by decide +kernel) rfl rfl (by decide) rfl (Nat.le_of_ble_eq_true rfl) dX11_init_81 ?_
  refine z_G (G2 := (va_up (zg B z0 zt1) 0 (.inr (11, [.ref (B.1 + 1), .ref (B.1 + 8), .null, .null, .null, .null, .null, .long 0, .long 0, .int 0, .int 0, .int 0])))) (va_upA _ _ _ _) ?_
  refine z_aload_n C dX11_init_84 0 rfl rfl ?_
  refine z_GG (G2 := (va_up (va_up (zg B z0 zt1) 0 (.inr (11, [.ref (B.1 + 1), .ref (B.1 + 8), .null, .null, .null, .null, .null, .long 0, .long 0, .int 0, .int 0, .int 0]))) 33 (.inr (1, [.null, .null, .null, .null, .int 0, .int 0, .int 0])))) (fun k hk => (va_up_ne _ _ (Nat.ne_of_lt hk)).symm) ?_
  refine z_new C (ci := 1) (fs := [.null, .null, .null, .null, .int 0, .int 0, .int 0]) tyX1 tyX1_ok zc_1 tw_71 tw_72 tw_8 rfl (by decide) rfl (Nat.le_of_ble_eq_true rfl) (Nat.le_of_ble_eq_true rfl) dX11_init_85 (n2 := 34) (a2 := 33) (w2 := 142) rfl rfl rfl ?_
  refine z_dup C dX11_init_88 rfl ?_
  refine z_callI C hl (o := 33) (c_X1_init_33 l B (va_up (zg B z0 zt1) 0 (.inr (11, [.ref (B.1 + 1), .ref (B.1 + 8), .null, .null, .null, .null, .null, .long 0, .long 0, .int 0, .int 0, .int 0]))) (fun k h1 h2 => ((va_up_ne _ _ (by omega))))) (zCB (nA := 0) C rfl rfl tw_75 tw_8 tw_73 (by decide +kernel) ⟨Nat.le_of_ble_eq_true rfl, Nat.le_of_ble_eq_true rfl⟩) rfl tw_74 (Nat.le_of_ble_eq_true rfl) dX11_init_89 ⟨Nat.le_of_ble_eq_true rfl, Nat.le_of_ble_eq_true rfl⟩ (n2 := 58) (a2 := 57) (w2 := 264) rfl rfl rfl ?_
  refine z_putF C hnm (ci := 11) (o := 0) (j := 2) (fs := [.ref (B.1 + 1), .ref (B.1 + 8), .null, .null, .null, .null, .null, .long 0, .long 0, .int 0, .int 0, .int 0]) (ty := tyX11 2) tyX11 tyX11_ok nmX11 zc_11 rfl (by decide) tw_227 rfl rfl rfl (by decide +kernel) rfl rfl (by decide) rfl (Nat.le_of_ble_eq_true rfl) dX11_init_92 ?_
  refine z_G (G2 := (va_up (zg B z0 zt1) 0 (.inr (11, [.ref (B.1 + 1), .ref (B.1 + 8), .ref (B.1 + 33), .null, .null, .null, .null, .long 0, .long 0, .int 0, .int 0, .int 0])))) (va_upA _ _ _ _) ?_
  refine z_aload_n C dX11_init_95 0 rfl rfl ?_
  refine z_iconst C dX11_init_96 ki_2 ?_
  refine z_GG (G2 := (va_up (va_up (zg B z0 zt1) 0 (.inr (11, [.ref (B.1 + 1), .ref (B.1 + 8), .ref (B.1 + 33), .null, .null, .null, .null, .long 0, .long 0, .int 0, .int 0, .int 0]))) 58 (.inl (B.2.2.1 4, 2, .inr (.inr (.inr (.inr (fun _ => none)))))))) (fun k hk => (va_up_ne _ _ (Nat.ne_of_lt hk)).symm) ?_
  refine z_anew C 4 (Cn := RX1) tw_71 (by decide) rfl (by decide) (N' := 2) (by decide) (by decide) rfl (Nat.le_of_ble_eq_true rfl) (Nat.le_of_ble_eq_true rfl) dX11_init_97 (n2 := 59) (a2 := 58) (w2 := 266) rfl rfl rfl ?_
  refine z_G (G2 := (va_up (va_up (zg B z0 zt1) 0 (.inr (11, [.ref (B.1 + 1), .ref (B.1 + 8), .ref (B.1 + 33), .null, .null, .null, .null, .long 0, .long 0, .int 0, .int 0, .int 0]))) 58 (.inl (B.2.2.1 4, 2, .inr (.inr (.inr (.inr (zq B (fun j => 58 + 1 + 25 * j) 0)))))))) (by rw [← zq_0]) ?_
  refine z_dup C dX11_init_100 rfl ?_
  refine z_iconst C dX11_init_101 ki_0 ?_
  refine z_GG (G2 := (va_up (va_up (va_up (zg B z0 zt1) 0 (.inr (11, [.ref (B.1 + 1), .ref (B.1 + 8), .ref (B.1 + 33), .null, .null, .null, .null, .long 0, .long 0, .int 0, .int 0, .int 0]))) 58 (.inl (B.2.2.1 4, 2, .inr (.inr (.inr (.inr (zq B (fun j => 58 + 1 + 25 * j) 0))))))) 59 (.inr (1, [.null, .null, .null, .null, .int 0, .int 0, .int 0])))) (fun k hk => (va_up_ne _ _ (Nat.ne_of_lt hk)).symm) ?_
  refine z_new C (ci := 1) (fs := [.null, .null, .null, .null, .int 0, .int 0, .int 0]) tyX1 tyX1_ok zc_1 tw_71 tw_72 tw_8 rfl (by decide) rfl (Nat.le_of_ble_eq_true rfl) (Nat.le_of_ble_eq_true rfl) dX11_init_102 (n2 := 60) (a2 := 59) (w2 := 273) rfl rfl rfl ?_
  refine z_dup C dX11_init_105 rfl ?_
  refine z_callI C hl (o := 59) (c_X1_init_59 l B (va_up (va_up (zg B z0 zt1) 0 (.inr (11, [.ref (B.1 + 1), .ref (B.1 + 8), .ref (B.1 + 33), .null, .null, .null, .null, .long 0, .long 0, .int 0, .int 0, .int 0]))) 58 (.inl (B.2.2.1 4, 2, .inr (.inr (.inr (.inr (zq B (fun j => 58 + 1 + 25 * j) 0))))))) (fun k h1 h2 => (Eq.trans (va_up_ne _ _ (by omega)) (va_up_ne _ _ (by omega))))) (zCB (nA := 0) C rfl rfl tw_75 tw_8 tw_73 (by decide +kernel) ⟨Nat.le_of_ble_eq_true rfl, Nat.le_of_ble_eq_true rfl⟩) rfl tw_74 (Nat.le_of_ble_eq_true rfl) dX11_init_106 ⟨Nat.le_of_ble_eq_true rfl, Nat.le_of_ble_eq_true rfl⟩ (n2 := 84) (a2 := 83) (w2 := 395) rfl rfl rfl ?_
  refine z_aast C 4 (o := 58) (v := 59) (by decide) rfl rfl (by decide) rfl rfl (by unfold vp_in; decide) dX11_init_109 ?_
  refine z_G (G2 := (va_up (va_up (zg B z0 zt1) 0 (.inr (11, [.ref (B.1 + 1), .ref (B.1 + 8), .ref (B.1 + 33), .null, .null, .null, .null, .long 0, .long 0, .int 0, .int 0, .int 0]))) 58 (.inl (B.2.2.1 4, 2, .inr (.inr (.inr (.inr (zq B (fun j => 58 + 1 + 25 * j) 1)))))))) ((va_upA _ _ _ _).trans (by rw [show va_up (zq B (fun j => 58 + 1 + 25 * j) 0) (Int32.toNatClampNeg 0) (some (B.1 + 59)) = zq B (fun j => 58 + 1 + 25 * j) 1 from zq_s B (fun j => 58 + 1 + 25 * j) 0])) ?_
  refine z_dup C dX11_init_110 rfl ?_
  refine z_iconst C dX11_init_111 ki_1 ?_
  refine z_GG (G2 := (va_up (va_up (va_up (zg B z0 zt1) 0 (.inr (11, [.ref (B.1 + 1), .ref (B.1 + 8), .ref (B.1 + 33), .null, .null, .null, .null, .long 0, .long 0, .int 0, .int 0, .int 0]))) 58 (.inl (B.2.2.1 4, 2, .inr (.inr (.inr (.inr (zq B (fun j => 58 + 1 + 25 * j) 1))))))) 84 (.inr (1, [.null, .null, .null, .null, .int 0, .int 0, .int 0])))) (fun k hk => (va_up_ne _ _ (Nat.ne_of_lt hk)).symm) ?_
  refine z_new C (ci := 1) (fs := [.null, .null, .null, .null, .int 0, .int 0, .int 0]) tyX1 tyX1_ok zc_1 tw_71 tw_72 tw_8 rfl (by decide) rfl (Nat.le_of_ble_eq_true rfl) (Nat.le_of_ble_eq_true rfl) dX11_init_112 (n2 := 85) (a2 := 84) (w2 := 402) rfl rfl rfl ?_
  refine z_dup C dX11_init_115 rfl ?_
  refine z_callI C hl (o := 84) (c_X1_init_84 l B (va_up (va_up (zg B z0 zt1) 0 (.inr (11, [.ref (B.1 + 1), .ref (B.1 + 8), .ref (B.1 + 33), .null, .null, .null, .null, .long 0, .long 0, .int 0, .int 0, .int 0]))) 58 (.inl (B.2.2.1 4, 2, .inr (.inr (.inr (.inr (zq B (fun j => 58 + 1 + 25 * j) 1))))))) (fun k h1 h2 => (Eq.trans (va_up_ne _ _ (by omega)) (va_up_ne _ _ (by omega))))) (zCB (nA := 0) C rfl rfl tw_75 tw_8 tw_73 (by decide +kernel) ⟨Nat.le_of_ble_eq_true rfl, Nat.le_of_ble_eq_true rfl⟩) rfl tw_74 (Nat.le_of_ble_eq_true rfl) dX11_init_116 ⟨Nat.le_of_ble_eq_true rfl, Nat.le_of_ble_eq_true rfl⟩ (n2 := 109) (a2 := 108) (w2 := 524) rfl rfl rfl ?_
  refine z_aast C 4 (o := 58) (v := 84) (by decide) rfl rfl (by decide) rfl rfl (by unfold vp_in; decide) dX11_init_119 ?_
  refine z_G (G2 := (va_up (va_up (zg B z0 zt1) 0 (.inr (11, [.ref (B.1 + 1), .ref (B.1 + 8), .ref (B.1 + 33), .null, .null, .null, .null, .long 0, .long 0, .int 0, .int 0, .int 0]))) 58 (.inl (B.2.2.1 4, 2, .inr (.inr (.inr (.inr (zq B (fun j => 58 + 1 + 25 * j) 2)))))))) ((va_upA _ _ _ _).trans (by rw [show va_up (zq B (fun j => 58 + 1 + 25 * j) 1) (Int32.toNatClampNeg 1) (some (B.1 + 84)) = zq B (fun j => 58 + 1 + 25 * j) 2 from zq_s B (fun j => 58 + 1 + 25 * j) 1])) ?_
  refine z_fill ?_
  refine z_G (G2 := (va_up (zg B z0 zt1) 0 (.inr (11, [.ref (B.1 + 1), .ref (B.1 + 8), .ref (B.1 + 33), .null, .null, .null, .null, .long 0, .long 0, .int 0, .int 0, .int 0])))) (va_upI _ _ _ rfl) ?_
  refine z_putF C hnm (ci := 11) (o := 0) (j := 3) (fs := [.ref (B.1 + 1), .ref (B.1 + 8), .ref (B.1 + 33), .null, .null, .null, .null, .long 0, .long 0, .int 0, .int 0, .int 0]) (ty := tyX11 3) tyX11 tyX11_ok nmX11 zc_11 rfl (by decide) tw_228 rfl rfl rfl (by decide +kernel) rfl rfl (by decide) rfl (Nat.le_of_ble_eq_true rfl) dX11_init_120 ?_
  refine z_G (G2 := (va_up (zg B z0 zt1) 0 (.inr (11, [.ref (B.1 + 1), .ref (B.1 + 8), .ref (B.1 + 33), .ref (B.1 + 58), .null, .null, .null, .long 0, .long 0, .int 0, .int 0, .int 0])))) (va_upA _ _ _ _) ?_
  refine z_aload_n C dX11_init_123 0 rfl rfl ?_
  refine z_aload_n C dX11_init_124 0 rfl rfl ?_
  refine z_get C (ci := 11) (o := 0) (j := 3) (v := .ref (B.1 + 58)) (fs := [.ref (B.1 + 1), .ref (B.1 + 8), .ref (B.1 + 33), .ref (B.1 + 58), .null, .null, .null, .long 0, .long 0, .int 0, .int 0, .int 0]) zc_11 rfl (by decide) tw_228 rfl (by decide) rfl rfl dX11_init_125 ?_
  refine z_alen C (v := 2) 4 (o := 58) (by decide) rfl rfl rfl dX11_init_128 ?_
  refine z_newa C (atype := .boolean) (ty := .boolean) 2 tw_223 rfl rfl rfl (by decide) (N' := 2) (by decide) (by decide) rfl (Nat.le_of_ble_eq_true rfl) (Nat.le_of_ble_eq_true rfl) dX11_init_129 (n2 := 110) (a2 := 109) (w2 := 526) rfl rfl rfl ?_
  refine z_putF C hnm (ci := 11) (o := 0) (j := 4) (fs := [.ref (B.1 + 1), .ref (B.1 + 8), .ref (B.1 + 33), .ref (B.1 + 58), .null, .null, .null, .long 0, .long 0, .int 0, .int 0, .int 0]) (ty := tyX11 4) tyX11 tyX11_ok nmX11 zc_11 rfl (by decide) tw_229 rfl rfl rfl (by decide +kernel) rfl rfl (by decide) rfl (Nat.le_of_ble_eq_true rfl) dX11_init_131 ?_
  refine z_G (G2 := (va_up (zg B z0 zt1) 0 (.inr (11, [.ref (B.1 + 1), .ref (B.1 + 8), .ref (B.1 + 33), .ref (B.1 + 58), .ref (B.1 + 109), .null, .null, .long 0, .long 0, .int 0, .int 0, .int 0])))) (va_upA _ _ _ _) ?_
  refine z_aload_n C dX11_init_134 0 rfl rfl ?_
  refine z_new C (ci := 8) (fs := [.int 0, .int 0, .int 0, .int 0, .int 0, .int 0]) tyX8 tyX8_ok zc_8 tw_194 tw_78 tw_9 rfl (by decide) rfl (Nat.le_of_ble_eq_true rfl) (Nat.le_of_ble_eq_true rfl) dX11_init_135 (n2 := 111) (a2 := 110) (w2 := 532) rfl rfl rfl ?_
  refine z_dup C dX11_init_138 rfl ?_
  refine z_callIN C hl (o := 110) (c_X8_init l B 111 (va_up (zg B z0 zt1) 0 (.inr (11, [.ref (B.1 + 1), .ref (B.1 + 8), .ref (B.1 + 33), .ref (B.1 + 58), .ref (B.1 + 109), .null, .null, .long 0, .long 0, .int 0, .int 0, .int 0]))) 110) (zCN (nA := 0) C rfl rfl tw_81 tw_9 (by decide +kernel) (by decide +kernel) ⟨Nat.le_of_ble_eq_true rfl, Nat.le_of_ble_eq_true rfl⟩) rfl tw_80 (Nat.le_of_ble_eq_true rfl) dX11_init_139 ⟨Nat.le_of_ble_eq_true rfl, Nat.le_of_ble_eq_true rfl⟩ (n2 := 111) (a2 := 110) (w2 := 532) rfl rfl rfl ?_
  refine z_putF C hnm (ci := 11) (o := 0) (j := 5) (fs := [.ref (B.1 + 1), .ref (B.1 + 8), .ref (B.1 + 33), .ref (B.1 + 58), .ref (B.1 + 109), .null, .null, .long 0, .long 0, .int 0, .int 0, .int 0]) (ty := tyX11 5) tyX11 tyX11_ok nmX11 zc_11 rfl (by decide) tw_230 rfl rfl rfl (by decide +kernel) rfl rfl (by decide) rfl (Nat.le_of_ble_eq_true rfl) dX11_init_142 ?_
  refine z_G (G2 := (va_up (zg B z0 zt1) 0 (.inr (11, [.ref (B.1 + 1), .ref (B.1 + 8), .ref (B.1 + 33), .ref (B.1 + 58), .ref (B.1 + 109), .ref (B.1 + 110), .null, .long 0, .long 0, .int 0, .int 0, .int 0])))) (va_upA _ _ _ _) ?_
  refine z_aload_n C dX11_init_145 0 rfl rfl ?_
  refine z_GG (G2 := (va_up (va_up (zg B z0 zt1) 0 (.inr (11, [.ref (B.1 + 1), .ref (B.1 + 8), .ref (B.1 + 33), .ref (B.1 + 58), .ref (B.1 + 109), .ref (B.1 + 110), .null, .long 0, .long 0, .int 0, .int 0, .int 0]))) 111 (.inr (9, [.null, .int 0, .int 0, .int 0, .int 0, .int 0])))) (fun k hk => (va_up_ne _ _ (Nat.ne_of_lt hk)).symm) ?_
  refine z_new C (ci := 9) (fs := [.null, .int 0, .int 0, .int 0, .int 0, .int 0]) tyX9 tyX9_ok zc_9 tw_196 tw_197 tw_12 rfl (by decide) rfl (Nat.le_of_ble_eq_true rfl) (Nat.le_of_ble_eq_true rfl) dX11_init_146 (n2 := 112) (a2 := 111) (w2 := 538) rfl rfl rfl ?_
  refine z_dup C dX11_init_149 rfl ?_
  refine z_callI C hl (o := 111) (c_X9_init_111 l B (va_up (zg B z0 zt1) 0 (.inr (11, [.ref (B.1 + 1), .ref (B.1 + 8), .ref (B.1 + 33), .ref (B.1 + 58), .ref (B.1 + 109), .ref (B.1 + 110), .null, .long 0, .long 0, .int 0, .int 0, .int 0]))) (fun k h1 h2 => ((va_up_ne _ _ (by omega))))) (zCB (nA := 0) C rfl rfl tw_200 tw_12 tw_198 (by decide +kernel) ⟨Nat.le_of_ble_eq_true rfl, Nat.le_of_ble_eq_true rfl⟩) rfl tw_199 (Nat.le_of_ble_eq_true rfl) dX11_init_150 ⟨Nat.le_of_ble_eq_true rfl, Nat.le_of_ble_eq_true rfl⟩ (n2 := 113) (a2 := 112) (w2 := 688) rfl rfl rfl ?_
  refine z_putF C hnm (ci := 11) (o := 0) (j := 6) (fs := [.ref (B.1 + 1), .ref (B.1 + 8), .ref (B.1 + 33), .ref (B.1 + 58), .ref (B.1 + 109), .ref (B.1 + 110), .null, .long 0, .long 0, .int 0, .int 0, .int 0]) (ty := tyX11 6) tyX11 tyX11_ok nmX11 zc_11 rfl (by decide) tw_231 rfl rfl rfl (by decide +kernel) rfl rfl (by decide) rfl (Nat.le_of_ble_eq_true rfl) dX11_init_153 ?_
  refine z_G (G2 := (va_up (zg B z0 zt1) 0 (.inr (11, [.ref (B.1 + 1), .ref (B.1 + 8), .ref (B.1 + 33), .ref (B.1 + 58), .ref (B.1 + 109), .ref (B.1 + 110), .ref (B.1 + 111), .long 0, .long 0, .int 0, .int 0, .int 0])))) (va_upA _ _ _ _) ?_
  refine z_aload_n C dX11_init_156 0 rfl rfl ?_
  refine z_lconst C dX11_init_157 kl_0 ?_
  refine z_put C (ci := 11) (o := 0) (j := 7) (fs := [.ref (B.1 + 1), .ref (B.1 + 8), .ref (B.1 + 33), .ref (B.1 + 58), .ref (B.1 + 109), .ref (B.1 + 110), .ref (B.1 + 111), .long 0, .long 0, .int 0, .int 0, .int 0]) (ty := tyX11 7) tyX11 tyX11_ok nmX11 zc_11 rfl (by decide) tw_232 rfl rfl (by decide +kernel) rfl rfl (by decide) rfl (Nat.le_of_ble_eq_true rfl) dX11_init_158 ?_
  refine z_G (G2 := (va_up (zg B z0 zt1) 0 (.inr (11, [.ref (B.1 + 1), .ref (B.1 + 8), .ref (B.1 + 33), .ref (B.1 + 58), .ref (B.1 + 109), .ref (B.1 + 110), .ref (B.1 + 111), .long 0, .long 0, .int 0, .int 0, .int 0])))) (va_upA _ _ _ _) ?_
  refine z_aload_n C dX11_init_161 0 rfl rfl ?_
  refine z_lconst C dX11_init_162 kl_1 ?_
  refine z_put C (ci := 11) (o := 0) (j := 8) (fs := [.ref (B.1 + 1), .ref (B.1 + 8), .ref (B.1 + 33), .ref (B.1 + 58), .ref (B.1 + 109), .ref (B.1 + 110), .ref (B.1 + 111), .long 0, .long 0, .int 0, .int 0, .int 0]) (ty := tyX11 8) tyX11 tyX11_ok nmX11 zc_11 rfl (by decide) tw_233 rfl rfl (by decide +kernel) rfl rfl (by decide) rfl (Nat.le_of_ble_eq_true rfl) dX11_init_163 ?_
  refine z_G (G2 := (va_up (zg B z0 zt1) 0 (.inr (11, [.ref (B.1 + 1), .ref (B.1 + 8), .ref (B.1 + 33), .ref (B.1 + 58), .ref (B.1 + 109), .ref (B.1 + 110), .ref (B.1 + 111), .long 0, .long 1, .int 0, .int 0, .int 0])))) (va_upA _ _ _ _) ?_
  refine z_G (G2 := zg B z0 zt1) (va_upI _ _ _ rfl) ?_
  exact z_vret C E rfl dX11_init_166 rfl (Nat.le_refl _) ⟨rfl, rfl⟩
theorem z_callS0 {X : zX} {B : zB} {μ : zM} {s s2 : zS} {t t2 : zL} {a w pc : Nat} {lv : List (Nat × Value)} {st : List Value} (C : zC X B μ) {l : Launch} (hl : X.2.1 = l) {κ : zM} {nA index : Nat} {As rest : List Value} (hM : zD l B κ s t As none s2 t2) (cw : CallB μ.2.2.2.2 (xS X) (xA X) μ.1.cls index κ.1 κ.2.1 κ.2.2.1 κ.2.2.2.1 (zWs κ) κ.2.2.2.2 0 0 nA) (hstt : zT (.static κ.1)) (hn : As.length = nA) (hst : st = As.reverse ++ rest) (hW : (rest.map fun v => v.category).sum ≤ 8) (d : decode μ.2.1 pc = .ok (.invokestatic index, 3)) (hf : a ≤ μ.2.2.2.2.cells ∧ w ≤ μ.2.2.2.2.slots) (kk : Z X B μ 124 (zg B s2 t2) a w (pc + 3) lv rest) : Z X B μ 124 (zg B s t) a w pc lv st := by
  subst hl
  exact z_run (mc := 0) (ms := 0) (rest := rest) (fun H locs ls hls hw hS => va_runS (As := As) (rest := rest) C.fix hM ⟨cw, C.t hstt⟩ ⟨zPre_blind, zPre_at C hw hS _⟩ rfl hn hls.1 hst (lv_room hW) d hf) (fun v G q => by obtain ⟨rfl, rfl⟩ := q; exact kk)
theorem wBeg_z0 : wBeg z0 114 0 = z0 := by
  funext k j
  simp [wBeg, wZero, zu, z0]
abbrev mX12_init : zM := (yX12_init, cX12_init, 1, none, { frames := 1, cells := 10, slots := 548, locals := 22 })
set_option maxRecDepth 100000 in
set_option maxHeartbeats 4000000 in
theorem c_X12_init (l : Launch) (B : zB) : zMet l B mX12_init 10 548 114 (va_up (zg B z0 zt1) 113 (.inr (12, [.null, .null, .null, .null, .long 0, .long 0, .null, .null, .null, .int 0, .int 0, .null, .int 0, .int 0, .int 0, .int 0, .int 0, .null, .null]))) [.ref (B.1 + 113)] (zRi (zg B z0 zt1)) := by
  refine z_met (by decide) (Nat.le_of_ble_eq_true rfl) ?_
  intro X hl C E hnm
  show Z X B mX12_init 114 (va_up (zg B z0 zt1) 113 (.inr (12, [.null, .null, .null, .null, .long 0, .long 0, .null, .null, .null, .int 0, .int 0, .null, .int 0, .int 0, .int 0, .int 0, .int 0, .null, .null]))) 0 0 0 [(0, .ref (B.1 + 113))] []
  refine z_aload_n C dX12_init_0 0 rfl rfl ?_
  refine z_obj C tw_740 (Nat.le_of_ble_eq_true rfl) (Nat.le_of_ble_eq_true rfl) dX12_init_1 ?_
  refine z_aload_n C dX12_init_4 0 rfl rfl ?_
  refine z_bipush C dX12_init_5 kb_105 ?_
  refine z_newa C (atype := .int) (ty := .int) 0 tw_802 rfl rfl rfl (by decide) (N' := 105) (by decide) (by decide) rfl (Nat.le_of_ble_eq_true rfl) (Nat.le_of_ble_eq_true rfl) dX12_init_7 (n2 := 115) (a2 := 1) (w2 := 105) rfl rfl rfl ?_
  refine z_putF C hnm (ci := 12) (o := 113) (j := 0) (fs := [.null, .null, .null, .null, .long 0, .long 0, .null, .null, .null, .int 0, .int 0, .null, .int 0, .int 0, .int 0, .int 0, .int 0, .null, .null]) (ty := tyX12 0) tyX12 tyX12_ok nmX12 zc_12 rfl (by decide) tw_744 rfl rfl rfl (by decide +kernel) rfl rfl (by decide) rfl (Nat.le_of_ble_eq_true rfl) dX12_init_9 ?_
  refine z_G (G2 := (va_up (zg B z0 zt1) 113 (.inr (12, [.ref (B.1 + 114), .null, .null, .null, .long 0, .long 0, .null, .null, .null, .int 0, .int 0, .null, .int 0, .int 0, .int 0, .int 0, .int 0, .null, .null])))) (va_upA _ _ _ _) ?_
  refine z_aload_n C dX12_init_12 0 rfl rfl ?_
  refine z_sipush C dX12_init_13 ks_210 ?_
  refine z_newa C (atype := .int) (ty := .int) 0 tw_802 rfl rfl rfl (by decide) (N' := 210) (by decide) (by decide) rfl (Nat.le_of_ble_eq_true rfl) (Nat.le_of_ble_eq_true rfl) dX12_init_16 (n2 := 116) (a2 := 2) (w2 := 315) rfl rfl rfl ?_
  refine z_putF C hnm (ci := 12) (o := 113) (j := 1) (fs := [.ref (B.1 + 114), .null, .null, .null, .long 0, .long 0, .null, .null, .null, .int 0, .int 0, .null, .int 0, .int 0, .int 0, .int 0, .int 0, .null, .null]) (ty := tyX12 1) tyX12 tyX12_ok nmX12 zc_12 rfl (by decide) tw_745 rfl rfl rfl (by decide +kernel) rfl rfl (by decide) rfl (Nat.le_of_ble_eq_true rfl) dX12_init_18 ?_
  refine z_G (G2 := (va_up (zg B z0 zt1) 113 (.inr (12, [.ref (B.1 + 114), .ref (B.1 + 115), .null, .null, .long 0, .long 0, .null, .null, .null, .int 0, .int 0, .null, .int 0, .int 0, .int 0, .int 0, .int 0, .null, .null])))) (va_upA _ _ _ _) ?_
  refine z_aload_n C dX12_init_21 0 rfl rfl ?_
  refine z_iconst C dX12_init_22 ki_2 ?_
  refine z_newa C (atype := .boolean) (ty := .boolean) 2 tw_223 rfl rfl rfl (by decide) (N' := 2) (by decide) (by decide) rfl (Nat.le_of_ble_eq_true rfl) (Nat.le_of_ble_eq_true rfl) dX12_init_23 (n2 := 117) (a2 := 3) (w2 := 317) rfl rfl rfl ?_
  refine z_putF C hnm (ci := 12) (o := 113) (j := 2) (fs := [.ref (B.1 + 114), .ref (B.1 + 115), .null, .null, .long 0, .long 0, .null, .null, .null, .int 0, .int 0, .null, .int 0, .int 0, .int 0, .int 0, .int 0, .null, .null]) (ty := tyX12 2) tyX12 tyX12_ok nmX12 zc_12 rfl (by decide) tw_746 rfl rfl rfl (by decide +kernel) rfl rfl (by decide) rfl (Nat.le_of_ble_eq_true rfl) dX12_init_25 ?_
  refine z_G (G2 := (va_up (zg B z0 zt1) 113 (.inr (12, [.ref (B.1 + 114), .ref (B.1 + 115), .ref (B.1 + 116), .null, .long 0, .long 0, .null, .null, .null, .int 0, .int 0, .null, .int 0, .int 0, .int 0, .int 0, .int 0, .null, .null])))) (va_upA _ _ _ _) ?_
  refine z_aload_n C dX12_init_28 0 rfl rfl ?_
  refine z_iconst C dX12_init_29 ki_3 ?_
  refine z_newa C (atype := .int) (ty := .int) 0 tw_802 rfl rfl rfl (by decide) (N' := 3) (by decide) (by decide) rfl (Nat.le_of_ble_eq_true rfl) (Nat.le_of_ble_eq_true rfl) dX12_init_30 (n2 := 118) (a2 := 4) (w2 := 320) rfl rfl rfl ?_
  refine z_putF C hnm (ci := 12) (o := 113) (j := 3) (fs := [.ref (B.1 + 114), .ref (B.1 + 115), .ref (B.1 + 116), .null, .long 0, .long 0, .null, .null, .null, .int 0, .int 0, .null, .int 0, .int 0, .int 0, .int 0, .int 0, .null, .null]) (ty := tyX12 3) tyX12 tyX12_ok nmX12 zc_12 rfl (by decide) tw_747 rfl rfl rfl (by decide +kernel) rfl rfl (by decide) rfl (Nat.le_of_ble_eq_true rfl) dX12_init_32 ?_
  refine z_G (G2 := (va_up (zg B z0 zt1) 113 (.inr (12, [.ref (B.1 + 114), .ref (B.1 + 115), .ref (B.1 + 116), .ref (B.1 + 117), .long 0, .long 0, .null, .null, .null, .int 0, .int 0, .null, .int 0, .int 0, .int 0, .int 0, .int 0, .null, .null])))) (va_upA _ _ _ _) ?_
  refine z_aload_n C dX12_init_35 0 rfl rfl ?_
  refine z_lconst C dX12_init_36 kl_1 ?_
  refine z_put C (ci := 12) (o := 113) (j := 5) (fs := [.ref (B.1 + 114), .ref (B.1 + 115), .ref (B.1 + 116), .ref (B.1 + 117), .long 0, .long 0, .null, .null, .null, .int 0, .int 0, .null, .int 0, .int 0, .int 0, .int 0, .int 0, .null, .null]) (ty := tyX12 5) tyX12 tyX12_ok nmX12 zc_12 rfl (by decide) tw_749 rfl rfl (by decide +kernel) rfl rfl (by decide) rfl (Nat.le_of_ble_eq_true rfl) dX12_init_37 ?_
  refine z_G (G2 := (va_up (zg B z0 zt1) 113 (.inr (12, [.ref (B.1 + 114), .ref (B.1 + 115), .ref (B.1 + 116), .ref (B.1 + 117), .long 0, .long 1, .null, .null, .null, .int 0, .int 0, .null, .int 0, .int 0, .int 0, .int 0, .int 0, .null, .null])))) (va_upA _ _ _ _) ?_
  refine z_aload_n C dX12_init_40 0 rfl rfl ?_
  refine z_bipush C dX12_init_41 kb_6 ?_
  refine z_newa C (atype := .int) (ty := .int) 0 tw_802 rfl rfl rfl (by decide) (N' := 6) (by decide) (by decide) rfl (Nat.le_of_ble_eq_true rfl) (Nat.le_of_ble_eq_true rfl) dX12_init_43 (n2 := 119) (a2 := 5) (w2 := 326) rfl rfl rfl ?_
  refine z_putF C hnm (ci := 12) (o := 113) (j := 6) (fs := [.ref (B.1 + 114), .ref (B.1 + 115), .ref (B.1 + 116), .ref (B.1 + 117), .long 0, .long 1, .null, .null, .null, .int 0, .int 0, .null, .int 0, .int 0, .int 0, .int 0, .int 0, .null, .null]) (ty := tyX12 6) tyX12 tyX12_ok nmX12 zc_12 rfl (by decide) tw_750 rfl rfl rfl (by decide +kernel) rfl rfl (by decide) rfl (Nat.le_of_ble_eq_true rfl) dX12_init_45 ?_
  refine z_G (G2 := (va_up (zg B z0 zt1) 113 (.inr (12, [.ref (B.1 + 114), .ref (B.1 + 115), .ref (B.1 + 116), .ref (B.1 + 117), .long 0, .long 1, .ref (B.1 + 118), .null, .null, .int 0, .int 0, .null, .int 0, .int 0, .int 0, .int 0, .int 0, .null, .null])))) (va_upA _ _ _ _) ?_
  refine z_aload_n C dX12_init_48 0 rfl rfl ?_
  refine z_bipush C dX12_init_49 kb_6 ?_
  refine z_newa C (atype := .int) (ty := .int) 0 tw_802 rfl rfl rfl (by decide) (N' := 6) (by decide) (by decide) rfl (Nat.le_of_ble_eq_true rfl) (Nat.le_of_ble_eq_true rfl) dX12_init_51 (n2 := 120) (a2 := 6) (w2 := 332) rfl rfl rfl ?_
  refine z_putF C hnm (ci := 12) (o := 113) (j := 7) (fs := [.ref (B.1 + 114), .ref (B.1 + 115), .ref (B.1 + 116), .ref (B.1 + 117), .long 0, .long 1, .ref (B.1 + 118), .null, .null, .int 0, .int 0, .null, .int 0, .int 0, .int 0, .int 0, .int 0, .null, .null]) (ty := tyX12 7) tyX12 tyX12_ok nmX12 zc_12 rfl (by decide) tw_751 rfl rfl rfl (by decide +kernel) rfl rfl (by decide) rfl (Nat.le_of_ble_eq_true rfl) dX12_init_53 ?_
  refine z_G (G2 := (va_up (zg B z0 zt1) 113 (.inr (12, [.ref (B.1 + 114), .ref (B.1 + 115), .ref (B.1 + 116), .ref (B.1 + 117), .long 0, .long 1, .ref (B.1 + 118), .ref (B.1 + 119), .null, .int 0, .int 0, .null, .int 0, .int 0, .int 0, .int 0, .int 0, .null, .null])))) (va_upA _ _ _ _) ?_
  refine z_aload_n C dX12_init_56 0 rfl rfl ?_
  refine z_bipush C dX12_init_57 kb_6 ?_
  refine z_newa C (atype := .int) (ty := .int) 0 tw_802 rfl rfl rfl (by decide) (N' := 6) (by decide) (by decide) rfl (Nat.le_of_ble_eq_true rfl) (Nat.le_of_ble_eq_true rfl) dX12_init_59 (n2 := 121) (a2 := 7) (w2 := 338) rfl rfl rfl ?_
  refine z_putF C hnm (ci := 12) (o := 113) (j := 8) (fs := [.ref (B.1 + 114), .ref (B.1 + 115), .ref (B.1 + 116), .ref (B.1 + 117), .long 0, .long 1, .ref (B.1 + 118), .ref (B.1 + 119), .null, .int 0, .int 0, .null, .int 0, .int 0, .int 0, .int 0, .int 0, .null, .null]) (ty := tyX12 8) tyX12 tyX12_ok nmX12 zc_12 rfl (by decide) tw_752 rfl rfl rfl (by decide +kernel) rfl rfl (by decide) rfl (Nat.le_of_ble_eq_true rfl) dX12_init_61 ?_
  refine z_G (G2 := (va_up (zg B z0 zt1) 113 (.inr (12, [.ref (B.1 + 114), .ref (B.1 + 115), .ref (B.1 + 116), .ref (B.1 + 117), .long 0, .long 1, .ref (B.1 + 118), .ref (B.1 + 119), .ref (B.1 + 120), .int 0, .int 0, .null, .int 0, .int 0, .int 0, .int 0, .int 0, .null, .null])))) (va_upA _ _ _ _) ?_
  refine z_aload_n C dX12_init_64 0 rfl rfl ?_
  refine z_sipush C dX12_init_65 ks_150 ?_
  refine z_newa C (atype := .int) (ty := .int) 0 tw_802 rfl rfl rfl (by decide) (N' := 150) (by decide) (by decide) rfl (Nat.le_of_ble_eq_true rfl) (Nat.le_of_ble_eq_true rfl) dX12_init_68 (n2 := 122) (a2 := 8) (w2 := 488) rfl rfl rfl ?_
  refine z_putF C hnm (ci := 12) (o := 113) (j := 11) (fs := [.ref (B.1 + 114), .ref (B.1 + 115), .ref (B.1 + 116), .ref (B.1 + 117), .long 0, .long 1, .ref (B.1 + 118), .ref (B.1 + 119), .ref (B.1 + 120), .int 0, .int 0, .null, .int 0, .int 0, .int 0, .int 0, .int 0, .null, .null]) (ty := tyX12 11) tyX12 tyX12_ok nmX12 zc_12 rfl (by decide) tw_755 rfl rfl rfl (by decide +kernel) rfl rfl (by decide) rfl (Nat.le_of_ble_eq_true rfl) dX12_init_70 ?_
  refine z_G (G2 := (va_up (zg B z0 zt1) 113 (.inr (12, [.ref (B.1 + 114), .ref (B.1 + 115), .ref (B.1 + 116), .ref (B.1 + 117), .long 0, .long 1, .ref (B.1 + 118), .ref (B.1 + 119), .ref (B.1 + 120), .int 0, .int 0, .ref (B.1 + 121), .int 0, .int 0, .int 0, .int 0, .int 0, .null, .null])))) (va_upA _ _ _ _) ?_
  refine z_aload_n C dX12_init_73 0 rfl rfl ?_
  refine z_bipush C dX12_init_74 kb_57 ?_
  refine z_newa C (atype := .int) (ty := .int) 0 tw_802 rfl rfl rfl (by decide) (N' := 57) (by decide) (by decide) rfl (Nat.le_of_ble_eq_true rfl) (Nat.le_of_ble_eq_true rfl) dX12_init_76 (n2 := 123) (a2 := 9) (w2 := 545) rfl rfl rfl ?_
  refine z_putF C hnm (ci := 12) (o := 113) (j := 17) (fs := [.ref (B.1 + 114), .ref (B.1 + 115), .ref (B.1 + 116), .ref (B.1 + 117), .long 0, .long 1, .ref (B.1 + 118), .ref (B.1 + 119), .ref (B.1 + 120), .int 0, .int 0, .ref (B.1 + 121), .int 0, .int 0, .int 0, .int 0, .int 0, .null, .null]) (ty := tyX12 17) tyX12 tyX12_ok nmX12 zc_12 rfl (by decide) tw_761 rfl rfl rfl (by decide +kernel) rfl rfl (by decide) rfl (Nat.le_of_ble_eq_true rfl) dX12_init_78 ?_
  refine z_G (G2 := (va_up (zg B z0 zt1) 113 (.inr (12, [.ref (B.1 + 114), .ref (B.1 + 115), .ref (B.1 + 116), .ref (B.1 + 117), .long 0, .long 1, .ref (B.1 + 118), .ref (B.1 + 119), .ref (B.1 + 120), .int 0, .int 0, .ref (B.1 + 121), .int 0, .int 0, .int 0, .int 0, .int 0, .ref (B.1 + 122), .null])))) (va_upA _ _ _ _) ?_
  refine z_aload_n C dX12_init_81 0 rfl rfl ?_
  refine z_iconst C dX12_init_82 ki_3 ?_
  refine z_newa C (atype := .int) (ty := .int) 0 tw_802 rfl rfl rfl (by decide) (N' := 3) (by decide) (by decide) rfl (Nat.le_of_ble_eq_true rfl) (Nat.le_of_ble_eq_true rfl) dX12_init_83 (n2 := 124) (a2 := 10) (w2 := 548) rfl rfl rfl ?_
  refine z_putF C hnm (ci := 12) (o := 113) (j := 18) (fs := [.ref (B.1 + 114), .ref (B.1 + 115), .ref (B.1 + 116), .ref (B.1 + 117), .long 0, .long 1, .ref (B.1 + 118), .ref (B.1 + 119), .ref (B.1 + 120), .int 0, .int 0, .ref (B.1 + 121), .int 0, .int 0, .int 0, .int 0, .int 0, .ref (B.1 + 122), .null]) (ty := tyX12 18) tyX12 tyX12_ok nmX12 zc_12 rfl (by decide) tw_762 rfl rfl rfl (by decide +kernel) rfl rfl (by decide) rfl (Nat.le_of_ble_eq_true rfl) dX12_init_85 ?_
  refine z_G (G2 := (va_up (zg B z0 zt1) 113 (.inr (12, [.ref (B.1 + 114), .ref (B.1 + 115), .ref (B.1 + 116), .ref (B.1 + 117), .long 0, .long 1, .ref (B.1 + 118), .ref (B.1 + 119), .ref (B.1 + 120), .int 0, .int 0, .ref (B.1 + 121), .int 0, .int 0, .int 0, .int 0, .int 0, .ref (B.1 + 122), .ref (B.1 + 123)])))) (va_upA _ _ _ _) ?_
  refine z_aload_n C dX12_init_88 0 rfl rfl ?_
  refine z_get C (ci := 12) (o := 113) (j := 0) (v := .ref (B.1 + 114)) (fs := [.ref (B.1 + 114), .ref (B.1 + 115), .ref (B.1 + 116), .ref (B.1 + 117), .long 0, .long 1, .ref (B.1 + 118), .ref (B.1 + 119), .ref (B.1 + 120), .int 0, .int 0, .ref (B.1 + 121), .int 0, .int 0, .int 0, .int 0, .int 0, .ref (B.1 + 122), .ref (B.1 + 123)]) zc_12 rfl (by decide) tw_744 rfl (by decide) rfl rfl dX12_init_89 ?_
  refine z_iconst C dX12_init_92 ki_0 ?_
  refine z_G (G2 := zg B z0 zt1) (va_upI _ _ _ rfl) ?_
  refine z_callS0 C hl (As := [.ref (B.1 + 114), .int 0]) (rest := []) (c_X12_begin114 l B z0 zt1 0) (zCB (nA := 2) C rfl rfl tw_743 tw_13 tw_741 (by decide +kernel) ⟨Nat.le_of_ble_eq_true rfl, Nat.le_of_ble_eq_true rfl⟩) tw_742 rfl rfl (Nat.le_of_ble_eq_true rfl) dX12_init_93 ⟨Nat.le_of_ble_eq_true rfl, Nat.le_of_ble_eq_true rfl⟩ ?_
  refine z_G (G2 := zg B z0 zt1) (by rw [wBeg_z0]) ?_
  exact z_vret C E rfl dX12_init_96 rfl (Nat.le_refl _) ⟨rfl, rfl⟩
